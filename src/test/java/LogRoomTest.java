/** Fills THE LOG up to its 4000 records: REASON 7 of a statement and of create, and checkpoint() without room. */
public final class LogRoomTest {
    private static int wrong;

    private final QueryHall hall = new QueryHall();

    public static void main(String[] args) {
        new LogRoomTest().ofStatements();
        new LogRoomTest().ofAllElse();
        System.out.println(wrong == 0 ? "all answers are as due" : wrong + " answers are not as due");
        if (wrong != 0) {
            System.exit(1);
        }
    }

    /** 24 rows, and 3931 records. */
    private void fill() {
        due("create", ask(0, "create table t(a number)"), 0);
        due("insert", ask(0, "insert into t values(1),(2),(3),(4),(5),(6),(7),(8)"), 8);
        due("insert", ask(0, "insert into t values(11),(12),(13),(14),(15),(16),(17),(18)"), 8);
        due("insert", ask(0, "insert into t values(21),(22),(23),(24),(25),(26),(27),(28)"), 8);
        due("records", hall.told(2), 31);
        // BEGIN, 24 DELETES, 24 INSERTS, COMMIT
        for (int i = 0; i < 78; i++) {
            due("update", ask(0, "update t set a=a"), 24);
        }
        due("records", hall.told(2), 3931);
        due("no room for 48", ask(0, "update t set a=a"), QueryHall.REFUSED);
        due("reason", hall.why(0, 0), 7);
    }

    private void ofStatements() {
        fill();
        // 17 rows: 3931 + 2 * 34 + 2 is one too many; 16 rows: 3931 + 2 * 32 + 2
        due("no room for 34", ask(0, "update t set a=a where a<22"), QueryHall.REFUSED);
        due("reason", hall.why(0, 0), 7);
        due("begin", ask(0, "begin"), 0);
        due("no room for 34", ask(0, "update t set a=a where a<22"), QueryHall.REFUSED);
        due("reason", hall.why(0, 0), 7);
        due("room for 32", ask(0, "update t set a=a where a<21"), 16);
        due("records", hall.told(2), 3964);
        // 3964 records and a RESERVE of 33
        due("no room for 1", ask(0, "update t set a=1 where a=1"), QueryHall.REFUSED);
        due("nothing lost", hall.crash(0), 0);
        due("steps", hall.recover(5000), 3997);
        due("records", hall.told(2), 3997);
        due("rows", hall.table(0, 0), 24);
        due("no room for 1", ask(0, "delete from t where a=1"), QueryHall.REFUSED);
        due("room for create", ask(0, "create table u(a number)"), 0);
        due("room for create", ask(0, "create index i on u(a)"), 0);
        due("room for checkpoint", hall.checkpoint(), 4000);
        due("no room for checkpoint", hall.checkpoint(), QueryHall.NONE);
    }

    private void ofAllElse() {
        fill();
        due("begin", ask(1, "begin"), 0);
        due("room for 24", ask(1, "delete from t"), 24);
        due("records", hall.told(2), 3956);
        // 3956 records and a RESERVE of 25: 19 are left, for 9 changes of this transaction
        due("room for 8", ask(1, "insert into t values(1),(2),(3),(4),(5),(6),(7),(8)"), 8);
        due("room for 1", ask(1, "delete from t where a=1"), 1);
        due("records", hall.told(2), 3965);
        due("no room for 1", ask(1, "delete from t where a=2"), QueryHall.REFUSED);
        due("reason", hall.why(1, 0), 7);
        due("nothing changes", ask(1, "delete from t where a=1"), 0);
        due("room for one record", hall.checkpoint(), 3932);
        due("no room", hall.checkpoint(), QueryHall.NONE);
        due("rolled back", ask(1, "rollback"), 0);
        due("records", hall.told(2), 4000);
        due("no room for create", ask(0, "create table u(a number)"), QueryHall.REFUSED);
        due("reason", hall.why(0, 0), 7);
        due("no room for an index", ask(0, "create index i on t(a)"), QueryHall.REFUSED);
        due("reason", hall.why(0, 0), 7);
        due("a select", ask(0, "select a from t"), 24);
        due("no change", ask(0, "update t set a=1 where a=99"), 0);
        due("24 rows at most", ask(0, "insert into t values(99),(98)"), QueryHall.REFUSED);
        due("reason 5 is before 7", hall.why(0, 0), 5);
        due("no room for 1", ask(0, "delete from t where a=1"), QueryHall.REFUSED);
        due("reason", hall.why(0, 0), 7);
        due("nothing lost", hall.crash(0), 0);
        due("steps", hall.recover(5000), 69);
        due("up", hall.told(5), 1);
        due("rows", hall.table(0, 0), 24);
    }

    private int ask(int session, String text) {
        for (int i = 0; i < text.length(); i++) {
            hall.put(session, text.charAt(i), 1);
        }
        return hall.run(session);
    }

    private static void due(String what, int got, int due) {
        if (got != due) {
            wrong++;
            System.out.println(what + ": answered " + got + ", due is " + due);
        }
    }
}
