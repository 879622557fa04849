import java.io.IOException;
import java.nio.charset.StandardCharsets;
import java.nio.file.DirectoryStream;
import java.nio.file.Files;
import java.nio.file.Path;
import java.nio.file.Paths;
import java.util.ArrayList;
import java.util.Collections;
import java.util.List;
import java.util.Set;
import java.util.TreeSet;
import java.util.regex.Matcher;
import java.util.regex.Pattern;

/**
 * Runs the scenarios under src/test/scenarios: calls with the answers that are due. README.md says how they are written.
 */
public final class ScenariosTest {
    private static final int PROMISES = 21;
    private static final int MOST_CALLS = 512;
    private static final Pattern REPEATED = Pattern.compile("\\\\\\{([0-9]+) ([^}]*)\\}");

    private final Set<Integer> promises = new TreeSet<>();
    private final String document;
    private QueryHall hall = new QueryHall();
    private String title = "";
    private int calls;
    private int checks;
    private int quotes;
    private int wrong;

    private ScenariosTest(String document) {
        this.document = document.replaceAll("\\s+", " ");
    }

    public static void main(String[] args) throws IOException {
        ScenariosTest test = new ScenariosTest(read(Paths.get("../shared/DOC.md")));
        List<Path> files = new ArrayList<>();
        try (DirectoryStream<Path> found = Files.newDirectoryStream(Paths.get("src/test/scenarios"), "*.txt")) {
            for (Path file : found) {
                files.add(file);
            }
        }
        Collections.sort(files);
        for (Path file : files) {
            int number = 0;
            for (String line : Files.readAllLines(file, StandardCharsets.ISO_8859_1)) {
                number++;
                test.line(file.getFileName() + ":" + number, line);
            }
            test.endScenario();
        }
        for (int promise = 1; promise <= PROMISES; promise++) {
            if (!test.promises.contains(promise)) {
                test.fail("no scenario is of promise " + promise);
            }
        }
        System.out.println(test.checks + " answers looked at, for " + test.quotes + " sentences of the document, "
                + test.wrong + " are not as due");
        if (test.wrong != 0 || test.checks == 0) {
            System.exit(1);
        }
    }

    private static String read(Path file) throws IOException {
        return new String(Files.readAllBytes(file), StandardCharsets.ISO_8859_1);
    }

    private void fail(String what) {
        wrong++;
        System.out.println(what);
    }

    private void line(String place, String line) {
        if (line.isBlank() || line.startsWith("#")) {
            return;
        }
        if (line.startsWith("==")) {
            title(line);
        } else if (line.startsWith("doc:")) {
            quote(place, line.substring(4));
        } else {
            check(place, line);
        }
    }

    private void check(String place, String line) {
        int at = (line + " ").lastIndexOf(" => ");
        if (at < 0) {
            throw new IllegalArgumentException(place + ": no answer is due: " + line);
        }
        String due = line.substring(at + 3).trim();
        String call = line.substring(0, at);
        int times = 1;
        if (call.startsWith("times ")) {
            int colon = call.indexOf(": ");
            times = Integer.parseInt(call.substring(6, colon));
            call = call.substring(colon + 2);
        }
        for (int n = 0; n < times; n++) {
            String got = answerOf(call);
            checks++;
            if (!got.equals(due)) {
                fail(place + ": " + call + " answered " + got + ", due is " + due);
            }
        }
    }

    /** A scenario says which sentence it tests: if the document says it no more, the scenario is to be looked at. */
    private void quote(String place, String words) {
        quotes++;
        if (!document.contains(words.trim().replaceAll("\\s+", " "))) {
            fail(place + ": the document does not say:" + words);
        }
    }

    /** What an object answers behind its 512th call is free, so no scenario may ask for it. */
    private void endScenario() {
        if (calls > MOST_CALLS) {
            fail(title + ": " + calls + " calls");
        }
        calls = 0;
    }

    private QueryHall hall() {
        calls++;
        return hall;
    }

    private void title(String line) {
        endScenario();
        title = line;
        hall = new QueryHall();
        for (String word : line.split(":")[0].split("[ ,]+")) {
            if (line.startsWith("== promise ") && word.matches("[0-9]+")) {
                promises.add(Integer.parseInt(word));
            }
        }
    }

    private String answerOf(String call) {
        try {
            if (call.length() > 1 && (call.charAt(1) == '>' || call.charAt(1) == '+')) {
                int session = call.charAt(0) - '0';
                int size = put(session, call.length() > 3 ? call.substring(3) : "");
                return "" + (call.charAt(1) == '+' ? size : hall().run(session));
            }
            String[] words = call.trim().split(" +");
            long[] n = new long[words.length - 1];
            for (int i = 0; i < n.length; i++) {
                n[i] = words[i + 1].equals("true") ? 1 : words[i + 1].equals("false") ? 0 : Long.parseLong(words[i + 1]);
            }
            return call(words[0], n);
        } catch (IndexOutOfBoundsException | IllegalArgumentException | IllegalStateException e) {
            return e.getClass().getSimpleName();
        }
    }

    /** Puts a TEXT, eight bytes a call: what the last call answers. */
    private int put(int session, String escaped) {
        byte[] text = unescape(escaped);
        int size = 0;
        for (int i = 0; i < text.length; i += 8) {
            int n = Math.min(8, text.length - i);
            long w = 0;
            for (int j = n - 1; j >= 0; j--) {
                w = w << 8 | text[i + j] & 255;
            }
            size = hall().put(session, w, n);
        }
        return size;
    }

    private static byte[] unescape(String escaped) {
        Matcher m = REPEATED.matcher(escaped);
        String s = m.replaceAll(r -> Matcher.quoteReplacement(r.group(2).repeat(Integer.parseInt(r.group(1)))));
        StringBuilder b = new StringBuilder();
        for (int i = 0; i < s.length(); i++) {
            if (s.startsWith("\\x", i)) {
                b.append((char) Integer.parseInt(s.substring(i + 2, i + 4), 16));
                i += 3;
            } else {
                b.append(s.charAt(i));
            }
        }
        return b.toString().getBytes(StandardCharsets.ISO_8859_1);
    }

    private static int i(long n) {
        return (int) n;
    }

    private String call(String name, long[] n) {
        switch (name) {
            case "put": return "" + hall().put(i(n[0]), n[1], i(n[2]));
            case "run": return "" + hall().run(i(n[0]));
            case "outcome": return "" + hall().outcome(i(n[0]));
            case "why": return "" + hall().why(i(n[0]), i(n[1]));
            case "cancel": return "" + hall().cancel(i(n[0]));
            case "answer": return "" + hall().answer(i(n[0]), i(n[1]));
            case "kind": return "" + hall().kind(i(n[0]), i(n[1]), i(n[2]));
            case "number": return "" + hall().number(i(n[0]), i(n[1]), i(n[2]));
            case "letter": return "" + hall().letter(i(n[0]), i(n[1]), i(n[2]), i(n[3]));
            case "plan": return "" + hall().plan(i(n[0]), i(n[1]), i(n[2]));
            case "held": return "" + hall().held(i(n[0]), i(n[1]));
            case "transaction": return "" + hall().transaction(i(n[0]), i(n[1]));
            case "lazy": return "" + hall().lazy(n[0] != 0);
            case "sync": return "" + hall().sync();
            case "checkpoint": return "" + hall().checkpoint();
            case "crash": return "" + hall().crash(i(n[0]));
            case "recover": return "" + hall().recover(i(n[0]));
            case "log": return "" + hall().log(i(n[0]), i(n[1]));
            case "table": return "" + hall().table(i(n[0]), i(n[1]));
            case "told": return "" + hall().told(i(n[0]));
            default: return several(name, n);
        }
    }

    /** Names for several calls at once, so that a scenario stays short. */
    private String several(String name, long[] n) {
        StringBuilder b = new StringBuilder();
        switch (name) {
            case "fault":
                return hall().why(i(n[0]), 0) + " " + hall().why(i(n[0]), 1);
            case "rows":
                return rows(i(n[0]));
            case "steps":
                for (int k = 0; hall().plan(i(n[0]), k, 0) != QueryHall.NONE; k++) {
                    b.append(k == 0 ? "" : " | ");
                    for (int what = 0; what < 5; what++) {
                        b.append(what == 0 ? "" : " ").append(hall().plan(i(n[0]), k, what));
                    }
                }
                return b.toString();
            case "record":
                for (int what = 0; what < 5; what++) {
                    b.append(what == 0 ? "" : " ").append(hall().log(i(n[0]), what));
                }
                return b.toString();
            case "waits":
                for (int what = 0; what < 5; what++) {
                    b.append(what == 0 ? "" : " ").append(hall().transaction(i(n[0]), what));
                }
                return b.toString();
            case "totals":
                for (int what = 0; what < 8; what++) {
                    b.append(what == 0 ? "" : " ").append(hall().told(what));
                }
                return b.toString();
            default:
                throw new UnsupportedOperationException(name);
        }
    }

    private String rows(int session) {
        StringBuilder b = new StringBuilder();
        int rows = hall().answer(session, 0);
        int columns = hall().answer(session, 1);
        for (int r = 0; r < rows; r++) {
            b.append(r == 0 ? "" : " | ");
            for (int c = 0; c < columns; c++) {
                b.append(c == 0 ? "" : " ").append(cell(session, r, c));
            }
        }
        return b.toString();
    }

    private String cell(int session, int r, int c) {
        long number = hall().number(session, r, c);
        switch (hall().kind(session, r, c)) {
            case 0:
                return number == 0 ? "null" : "a null that is " + number;
            case 1:
                return "" + number;
            case 2:
                return number == 1 ? "true" : number == 0 ? "false" : "a truth that is " + number;
            default:
                StringBuilder b = new StringBuilder("'");
                for (int k = 0; k < number; k++) {
                    b.append((char) hall().letter(session, r, c, k));
                }
                return b.append("'").toString();
        }
    }
}
