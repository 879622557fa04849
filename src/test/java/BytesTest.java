/** Each of the 256 bytes where a token begins, within a word, a number and a TEXT in quotation marks. */
public final class BytesTest {
    private static final String LETTERS = "abcdefghijklmnopqrstuvwxyz";
    private static final String DIGITS = "0123456789";
    private static final String SIGNS = "(),.*+-/%=<>";
    private static final String BLANKS = " \n";

    private static int wrong;

    public static void main(String[] args) {
        for (int b = 0; b < 256; b++) {
            beginning((char) b);
            inWord((char) b);
            inNumber((char) b);
            inText((char) b);
        }
        System.out.println(wrong == 0 ? "all answers are as due" : wrong + " answers are not as due");
        if (wrong != 0) {
            System.exit(1);
        }
    }

    private static boolean isIn(String some, char b) {
        return some.indexOf(b) >= 0;
    }

    /** A token alone is no statement: kind 2 where it stands; a blank alone is a text that ends too early. */
    private static void beginning(char b) {
        if (isIn(BLANKS, b)) {
            due("" + b, 2, 1);
        } else {
            due("" + b, isIn(LETTERS + DIGITS + SIGNS, b) ? 2 : 1, 0);
        }
    }

    /** A word of 10 characters that goes on is too long; else the next token begins behind it. */
    private static void inWord(char b) {
        if (isIn(LETTERS + DIGITS, b)) {
            due("abcdefghij" + b, 1, 0);
        } else if (isIn(SIGNS + BLANKS, b)) {
            due("abcdefghij" + b, 2, 0);
        } else {
            due("abcdefghij" + b, 1, 10);
        }
    }

    /** The greatest number that goes on is too great; behind a number a word may begin. */
    private static void inNumber(char b) {
        String greatest = "9223372036854775807";
        if (isIn(DIGITS, b)) {
            due(greatest + b, 1, 0);
        } else if (isIn(LETTERS + SIGNS + BLANKS, b)) {
            due(greatest + b, 2, 0);
        } else {
            due(greatest + b, 1, greatest.length());
        }
    }

    private static void inText(char b) {
        if (b == '\'') {
            due("'" + b + "'", 1, 2);
        } else {
            due("'" + b + "'", b >= 32 && b <= 126 ? 2 : 1, 0);
        }
    }

    private static void due(String text, int kind, int place) {
        QueryHall hall = new QueryHall();
        for (int i = 0; i < text.length(); i++) {
            hall.put(0, text.charAt(i), 1);
        }
        int outcome = hall.run(0);
        int gotKind = hall.why(0, 0);
        int gotPlace = hall.why(0, 1);
        if (outcome != QueryHall.WRONG || gotKind != kind || gotPlace != place) {
            wrong++;
            System.out.println("bytes " + bytesOf(text) + " answered " + outcome + ", " + gotKind + " at " + gotPlace
                    + ", due is " + QueryHall.WRONG + ", " + kind + " at " + place);
        }
    }

    private static String bytesOf(String text) {
        StringBuilder b = new StringBuilder();
        for (int i = 0; i < text.length(); i++) {
            b.append(' ').append((int) text.charAt(i));
        }
        return b.toString();
    }
}
