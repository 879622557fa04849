import java.util.Random;

/** Calls with any arguments in any state: only what the document names is thrown, and by a throw statement alone. */
public final class AnyCallsTest {
    private static final String[] WORDS = {"create", "table", "index", "on", "insert", "into", "values", "update", "set",
        "where", "delete", "from", "begin", "commit", "rollback", "number", "truth", "text", "not", "null", "select",
        "distinct", "left", "join", "group", "by", "having", "order", "desc", "or", "and", "is", "in", "true", "false",
        "count", "sum", "min", "max", "exists", "(", ")", ",", ".", "*", "+", "-", "/", "%", "=", "<", ">", "<=", ">=",
        "<>", "t", "u", "a", "b", "c", "1", "0", "9223372036854775807", "'x'", "''", "'abcdefghijkl'", "?"};
    private static final String[] TEXTS = {"create table t(a number,b text,c truth)", "create table u(a text)",
        "create index i on t(b)", "insert into t values(1,'x',true),(2,null,null)", "insert into u values('x')",
        "update t set a=a+1 where a=1", "update t set b='y',c=exists(select*from u)", "delete from t where a=2",
        "delete from u", "begin", "commit", "rollback", "select*from t join u on true left join t v on v.a=t.a",
        "select b,count(*),max(a)from t group by b having count(c)>0 order by sum(a)desc,b",
        "select a from t where b in(select a from u where u.a=t.b)and not a in(1,2,null)",
        "select distinct c from t where exists(select 1 from u where exists(select b from t where a=1))"};

    public static void main(String[] args) {
        long thrown = 0;
        for (int seed = 0; seed < 600; seed++) {
            Random random = new Random(seed);
            QueryHall hall = new QueryHall();
            for (int n = 0; n < 400; n++) {
                thrown += call(hall, random) ? 1 : 0;
            }
        }
        System.out.println(thrown + " exceptions, each as the document names it");
    }

    /** Makes one call: whether it threw what it may. What it may not throw ends the test. */
    private static boolean call(QueryHall hall, Random random) {
        int which = random.nextInt(60);
        try {
            if (which < 40) {
                ask(hall, random);
            } else {
                other(hall, which - 40, random);
            }
            return false;
        } catch (IndexOutOfBoundsException | IllegalArgumentException | IllegalStateException e) {
            String thrower = e.getStackTrace()[0].getClassName();
            boolean named = e.getClass() == IndexOutOfBoundsException.class
                    || e.getClass() == IllegalArgumentException.class || e.getClass() == IllegalStateException.class;
            if (!named || !thrower.equals("QueryHall")) {
                throw e;
            }
            return true;
        }
    }

    private static void ask(QueryHall hall, Random random) {
        int session = random.nextInt(4);
        StringBuilder text = new StringBuilder();
        if (random.nextInt(3) > 0) {
            text.append(TEXTS[random.nextInt(TEXTS.length)]);
            if (random.nextInt(6) == 0) {
                text.insert(random.nextInt(text.length() + 1), " " + WORDS[random.nextInt(WORDS.length)] + " ");
            }
        } else {
            for (int n = random.nextInt(40); n >= 0; n--) {
                text.append(WORDS[random.nextInt(WORDS.length)]).append(random.nextInt(3) == 0 ? "" : " ");
            }
        }
        for (int i = 0; i < text.length(); i++) {
            hall.put(session, text.charAt(i), 1);
        }
        hall.run(session);
    }

    private static void other(QueryHall hall, int which, Random random) {
        int s = some(random, 4);
        int a = some(random, 8);
        int b = some(random, 8);
        switch (which) {
            case 0: hall.put(s, random.nextLong(), some(random, 9)); break;
            case 1: hall.run(s); break;
            case 2: hall.outcome(s); break;
            case 3: hall.why(s, a); break;
            case 4: hall.cancel(s); break;
            case 5: hall.answer(s, a); break;
            case 6: hall.kind(s, a, b); break;
            case 7: hall.number(s, a, b); break;
            case 8: hall.letter(s, a, b, some(random, 14)); break;
            case 9: hall.plan(s, a, b); break;
            case 10: hall.held(s, a); break;
            case 11: hall.transaction(s, a); break;
            case 12: hall.lazy(random.nextBoolean()); break;
            case 13: hall.sync(); break;
            case 14: hall.checkpoint(); break;
            case 15: hall.crash(random.nextInt(4) == 0 ? a : -1); break;
            case 16: hall.recover(random.nextBoolean() ? 5000 : a); break;
            case 17: hall.log(some(random, 200), a); break;
            case 18: hall.table(s, a); break;
            default: hall.told(a);
        }
    }

    private static int some(Random random, int below) {
        int n = random.nextInt(below + 6);
        return n < below ? n : n == below ? -1 : n == below + 1 ? Integer.MAX_VALUE : n == below + 2 ? Integer.MIN_VALUE
            : random.nextInt(below);
    }
}
