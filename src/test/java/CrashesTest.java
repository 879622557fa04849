import java.util.ArrayList;
import java.util.List;

/**
 * A crash at each record of a log, and another one at each step of the recovery behind it: the tables are as by the
 * transactions whose COMMIT was kept, which another object does one behind the other; and the steps are as told.
 */
public final class CrashesTest {
    private static final String[] TABLES = {"create table t(a number,b number)", "create table u(a text,b number)"};
    // The session of each text, then the text. All of one session between begin and commit is one transaction.
    private static final String[] WORK = {
        "0insert into t values(1,1),(2,2),(3,3)", "1begin", "1update t set b=10 where a=1", "2begin",
        "2insert into u values('x',1),('y',2)", "1delete from t where a=2", "0begin", "0insert into t values(7,7)",
        "2commit", "3update u set b=b*5", "1insert into t values(2,22)", "0rollback", "3begin",
        "3delete from u where a='x'", "1commit", "2begin", "2update t set a=a+10", "3insert into u values('x',9)",
        "2delete from t where a=13", "0insert into u values('z',0)", "2commit", "3rollback", "1begin",
        "1update t set a=a+1", "0begin", "0delete from u where a='z'"};

    private static int wrong;

    private final QueryHall hall = new QueryHall();
    private int calls;

    public static void main(String[] args) {
        int records = new CrashesTest().work();
        for (int k = 0; k <= records - TABLES.length; k++) {
            new CrashesTest().crashOnce(k);
            for (int steps = 1; steps <= records + 12; steps += 3) {
                new CrashesTest().crashTwice(k, steps, 0, false);
                new CrashesTest().crashTwice(k, steps, 2, false);
                new CrashesTest().crashTwice(k, steps, 0, true);
            }
        }
        System.out.println(wrong == 0 ? "all answers are as due" : wrong + " answers are not as due");
        if (wrong != 0) {
            System.exit(1);
        }
    }

    /** Makes the tables, then does all of WORK without a record forced: how many records there are. */
    private int work() {
        for (String text : TABLES) {
            ask(0, text);
        }
        hall().lazy(true);
        for (String text : WORK) {
            int outcome = ask(text.charAt(0) - '0', text.substring(1));
            due(text + " is done", outcome >= 0 ? 1 : 0, 1);
        }
        due("records that are durable", hall().told(4), TABLES.length);
        return hall().told(2);
    }

    private void crashOnce(int k) {
        int records = work();
        int kept = TABLES.length + k;
        due("lost", hall().crash(k), records - kept);
        due("kept", hall().told(2), kept);
        due("durable", hall().told(4), kept);
        due("down", hall().told(5), 0);
        recoverBySteps();
    }

    /** Crashes again within the recovery, keeping some of the records that it made. */
    private void crashTwice(int k, int steps, int kept, boolean forced) {
        work();
        hall().crash(k);
        due("steps", hall().recover(steps) <= steps ? 1 : 0, 1);
        if (hall().told(5) == 1) {
            return;
        }
        if (forced) {
            hall().lazy(false);
        }
        int last = hall().told(2);
        int durable = hall().told(4);
        due("durable", durable, forced ? last : TABLES.length + k);
        due("lost", hall().crash(kept), Math.max(0, last - durable - kept));
        recoverBySteps();
    }

    /** A step for each record, and for each UNDO and END that LOSERS need; the system is UP with the last one. */
    private void recoverBySteps() {
        int kept = hall().told(2);
        List<Integer> committed = new ArrayList<>();
        int undoes = readLog(kept, committed);
        int steps = 0;
        while (hall().told(5) == 0 && steps < 100) {
            due("a step", hall().recover(1), 1);
            steps++;
        }
        due("steps", steps, kept + undoes);
        due("records", hall().told(2), kept + undoes);
        due("all are forced", hall().told(4), kept + undoes);
        compareTables(committed);
        due("no more than 512 calls", Math.max(calls, 512), 512);
    }

    /** Which transactions have a COMMIT, in the order of these; how many UNDOS and ENDS the LOSERS need. */
    private int readLog(int last, List<Integer> committed) {
        List<Integer> losers = new ArrayList<>();
        List<Integer> open = new ArrayList<>();
        for (int r = 1; r <= last; r++) {
            int kind = hall().log(r, 0);
            Integer transaction = hall().log(r, 1);
            if (kind == 1) {
                losers.add(transaction);
            } else if (kind >= 2 && kind <= 4) {
                open.add(transaction);
            } else if (kind == 6) {
                open.remove(transaction);
            } else if (kind == 5 || kind == 7) {
                losers.remove(transaction);
                open.removeIf(transaction::equals);
            }
            if (kind == 5) {
                committed.add(transaction);
            }
        }
        return losers.size() + open.size();
    }

    /** The same transactions, those alone that are committed, one behind the other. */
    private void compareTables(List<Integer> committed) {
        CrashesTest serial = new CrashesTest();
        for (String text : TABLES) {
            serial.ask(0, text);
        }
        for (int transaction : committed) {
            for (String text : textsOf(transaction)) {
                serial.ask(0, text);
            }
        }
        String got = contents();
        String due = serial.contents();
        if (!got.equals(due)) {
            wrong++;
            System.out.println("tables by " + committed + ": " + got + ", due is " + due);
        }
    }

    /** Transactions have numbers as they begin: with begin, or with a statement outside of one. */
    private static List<String> textsOf(int transaction) {
        int[] current = new int[4];
        int next = 1;
        List<String> texts = new ArrayList<>();
        for (String text : WORK) {
            int session = text.charAt(0) - '0';
            String statement = text.substring(1);
            boolean alone = current[session] == 0 && !statement.equals("begin");
            if (current[session] == 0) {
                current[session] = next;
                next++;
            }
            boolean ends = statement.equals("commit") || statement.equals("rollback");
            if (current[session] == transaction && !ends && !statement.equals("begin")) {
                texts.add(statement);
            }
            if (alone || ends) {
                current[session] = 0;
            }
        }
        return texts;
    }

    private String contents() {
        StringBuilder b = new StringBuilder();
        for (String table : new String[] {"t", "u"}) {
            int rows = ask(0, "select * from " + table);
            for (int r = 0; r < rows; r++) {
                b.append(table).append(hall().number(0, r, 0)).append((char) hall().letter(0, r, 0, 0));
                b.append('=').append(hall().number(0, r, 1)).append(' ');
            }
        }
        return b.toString();
    }

    private QueryHall hall() {
        calls++;
        return hall;
    }

    private int ask(int session, String text) {
        for (int i = 0; i < text.length(); i += 8) {
            int n = Math.min(8, text.length() - i);
            long w = 0;
            for (int j = n - 1; j >= 0; j--) {
                w = w << 8 | text.charAt(i + j);
            }
            hall().put(session, w, n);
        }
        return hall().run(session);
    }

    private static void due(String what, int got, int due) {
        if (got != due) {
            wrong++;
            System.out.println(what + ": answered " + got + ", due is " + due);
        }
    }
}
