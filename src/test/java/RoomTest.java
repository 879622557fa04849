import java.lang.management.ManagementFactory;

/**
 * What an object and its 512 calls make, in bytes, stays far below the room of a run (some 58 million bytes), in the
 * runs that make most: changes of full rows, SELECTS that look at many rows, locks of ever other KEYS, texts that are
 * wrong; and reading an answer makes nothing.
 */
public final class RoomTest {
    private static final int CALLS = 512;
    private static final long MOST_OF_AN_OBJECT = 2_500_000;
    private static final long MOST_OF_CALLS = 2_000_000;
    // Some bytes that the machine itself may make while it measures.
    private static final long NOTHING = 2_000;

    private static final com.sun.management.ThreadMXBean MEMORY =
        ManagementFactory.getThreadMXBean() instanceof com.sun.management.ThreadMXBean bean ? bean : null;

    private static int wrong;

    private final QueryHall hall = new QueryHall();
    private int calls;

    public static void main(String[] args) {
        if (MEMORY == null || !MEMORY.isThreadAllocatedMemorySupported()) {
            System.out.println("this machine does not tell what a thread makes");
            return;
        }
        // The first time classes are loaded, which counts, too.
        for (int times = 0; times < 2; times++) {
            wrong = 0;
            due("an object", objectBytes(), MOST_OF_AN_OBJECT);
            due("changes", new RoomTest().changes("update t set a=a"), MOST_OF_CALLS);
            due("changes of KEYS", new RoomTest().changes("update t set k=k"), MOST_OF_CALLS);
            due("queries", new RoomTest().queries(), MOST_OF_CALLS);
            due("locks", new RoomTest().locks(), MOST_OF_CALLS);
            due("faults", new RoomTest().faults(), MOST_OF_CALLS);
            due("reading", new RoomTest().reading(), NOTHING);
        }
        System.out.println(wrong == 0 ? "all runs keep to their room" : wrong + " runs make too much");
        if (wrong != 0) {
            System.exit(1);
        }
    }

    private static void due(String what, long bytes, long most) {
        if (bytes > most) {
            wrong++;
            System.out.println(what + ": " + bytes + " bytes were made, at most " + most + " are due");
        }
    }

    private static long made() {
        return MEMORY.getThreadAllocatedBytes(Thread.currentThread().getId());
    }

    private static long objectBytes() {
        long before = made();
        QueryHall hall = new QueryHall();
        long bytes = made() - before;
        return hall.told(0) == 0 ? bytes : Long.MAX_VALUE;
    }

    private int ask(int session, String text) {
        for (int i = 0; i < text.length(); i += 8) {
            int n = Math.min(8, text.length() - i);
            long w = 0;
            for (int j = n - 1; j >= 0; j--) {
                w = w << 8 | text.charAt(i + j);
            }
            hall.put(session, w, n);
            calls++;
        }
        calls++;
        return hall.run(session);
    }

    private void fill() {
        ask(0, "create table t(k text,a text,b text,c text,d text,e number)");
        for (char c = 'a'; c < 'y'; c += 2) {
            ask(0, "insert into t values('" + c + "','abcdefghijkl','x','y','z',1),('" + (char) (c + 1) + "','a','b','c','d',2)");
        }
        if (hall.table(0, 0) != 24) {
            throw new IllegalStateException("the table is not full");
        }
    }

    private long changes(String text) {
        fill();
        long before = made();
        while (calls < CALLS - 4) {
            ask(0, text);
        }
        return made() - before;
    }

    private long queries() {
        fill();
        long before = made();
        while (calls < CALLS - 40) {
            ask(0, "select distinct x.k,y.a from t x join t y on x.e=y.e where x.a in(select z.a from t z where z.k>y.k)order by y.b");
            ask(1, "select e,count(*),min(k)from t group by e");
            ask(2, "select 1 from t x join t y on true join t z on x.k=z.k and x.k=y.k");
        }
        return made() - before;
    }

    private long locks() {
        fill();
        long before = made();
        ask(1, "begin");
        for (int i = 0; calls < CALLS - 10; i++) {
            ask(1, "select e from t where k='" + i + "'");
        }
        return made() - before;
    }

    private long faults() {
        fill();
        long before = made();
        while (calls < CALLS - 2) {
            ask(0, "nix");
        }
        return made() - before;
    }

    private long reading() {
        fill();
        ask(0, "select * from t");
        long sum = 0;
        long before = made();
        for (; calls < CALLS - 8; calls += 8) {
            int row = calls % 24;
            sum += hall.kind(0, row, 1) + hall.number(0, row, 1) + hall.letter(0, row, 1, 3) + hall.answer(0, 0);
            sum += hall.plan(0, 0, 4) + hall.held(0, 0) + hall.told(2) + hall.log(1, 0);
        }
        long bytes = made() - before;
        return sum > 0 ? bytes : Long.MAX_VALUE;
    }
}
