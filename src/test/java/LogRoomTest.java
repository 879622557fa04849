/** Fills THE LOG up to its 4000 records: REASON 7 of a statement and of create, and checkpoint() without room. */
public final class LogRoomTest {
    private static final QueryHall HALL = new QueryHall();
    private static int wrong;

    public static void main(String[] args) {
        due("create", ask(0, "create table t(a number)"), 0);
        due("insert", ask(0, "insert into t values(1),(2),(3),(4),(5),(6),(7),(8)"), 8);
        due("insert", ask(0, "insert into t values(11),(12),(13),(14),(15),(16),(17),(18)"), 8);
        due("insert", ask(0, "insert into t values(21),(22),(23),(24),(25),(26),(27),(28)"), 8);
        due("records", HALL.told(2), 31);
        // BEGIN, 24 DELETES, 24 INSERTS, COMMIT
        for (int i = 0; i < 78; i++) {
            due("update", ask(0, "update t set a=a"), 24);
        }
        due("records", HALL.told(2), 3931);
        due("no room for 48", ask(0, "update t set a=a"), QueryHall.REFUSED);
        due("reason", HALL.why(0, 0), 7);
        due("begin", ask(1, "begin"), 0);
        due("room for 24", ask(1, "delete from t"), 24);
        due("records", HALL.told(2), 3956);
        // 3956 records and a RESERVE of 25: 19 are left, for 9 changes of this transaction
        due("room for 8", ask(1, "insert into t values(1),(2),(3),(4),(5),(6),(7),(8)"), 8);
        due("room for 1", ask(1, "delete from t where a=1"), 1);
        due("records and reserve", HALL.told(2), 3965);
        due("no room for 1", ask(1, "delete from t where a=2"), QueryHall.REFUSED);
        due("reason", HALL.why(1, 0), 7);
        due("nothing changes", ask(1, "delete from t where a=1"), 0);
        due("room for one record", HALL.checkpoint(), 3932);
        due("no room", HALL.checkpoint(), QueryHall.NONE);
        due("rolled back", ask(1, "rollback"), 0);
        due("records", HALL.told(2), 4000);
        due("no room for create", ask(0, "create table u(a number)"), QueryHall.REFUSED);
        due("reason", HALL.why(0, 0), 7);
        due("no room for an index", ask(0, "create index i on t(a)"), QueryHall.REFUSED);
        due("reason", HALL.why(0, 0), 7);
        due("a select", ask(0, "select a from t"), 24);
        due("no change", ask(0, "update t set a=1 where a=99"), 0);
        due("no room for 1", ask(0, "insert into t values(99),(98)"), QueryHall.REFUSED);
        due("reason 5 is before 7", HALL.why(0, 0), 5);
        due("no room for 1", ask(0, "delete from t where a=1"), QueryHall.REFUSED);
        due("reason", HALL.why(0, 0), 7);
        due("lost", HALL.crash(0), 0);
        due("steps", HALL.recover(5000), 69);
        due("up", HALL.told(5), 1);
        due("rows", HALL.table(0, 0), 24);
        System.out.println(wrong == 0 ? "all answers are as due" : wrong + " answers are not as due");
        if (wrong != 0) {
            System.exit(1);
        }
    }

    private static int ask(int session, String text) {
        for (int i = 0; i < text.length(); i++) {
            HALL.put(session, text.charAt(i), 1);
        }
        return HALL.run(session);
    }

    private static void due(String what, int got, int due) {
        if (got != due) {
            wrong++;
            System.out.println(what + ": answered " + got + ", due is " + due);
        }
    }
}
