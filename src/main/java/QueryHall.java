import java.util.ArrayList;
import java.util.Arrays;

/** Tables that four sessions ask and change at once, by texts; README.md says how to use it. */
public final class QueryHall {
    public static final int NONE = -1;
    public static final int BLOCKED = -2, DEADLOCK = -3, WRONG = -4, REFUSED = -5, CANCELLED = -6;

    private static final int SESSIONS = 4;
    private static final int MOST_BYTES = 400;
    private static final int MOST_TABLES = 6;
    private static final int MOST_INDEXES = 6;
    private static final int MOST_COLUMNS = 6;
    private static final int MOST_ROWS = 24;
    private static final int MOST_INSERTS = 8;
    private static final int MOST_ITEMS = 3;
    private static final int MOST_IN = 6;
    private static final int MOST_KEYS_OF_ORDER = 3;
    private static final int MOST_DEPTH = 20;
    private static final int MOST_LEVEL = 2;
    private static final int MOST_RECORDS = 4000;
    private static final int MOST_ANSWERS = 200;
    private static final int MOST_TRUE = 2000;
    private static final int MOST_LOOKS = 200000;
    private static final int MOST_STEPS = 5000;
    // Far above what one call can need: each turn uses up one of the locks that a waiting text asks.
    private static final int MOST_TURNS = 100000;

    // What a cell holds, and the type of an EXPR. A cell is three longs: its kind, and two that hold its value.
    private static final int NULL = 0, ANY = 0, NUMBER = 1, TRUTH = 2, TEXT = 3;
    private static final int CELL = 3;
    private static final int MOST_LETTERS = 12;
    private static final long GREATEST_NUMBER = 9223372036854775807L;

    // A REF's target, and a row of ITEMS together, are packed into one int.
    private static final int COLUMN_BITS = 3, ROW_BITS = 5, NO_ROW = 31;

    private static final int BEGIN_RECORD = 1, INSERT_RECORD = 2, DELETE_RECORD = 3, UPDATE_RECORD = 4;
    private static final int COMMIT_RECORD = 5, UNDO_RECORD = 6, END_RECORD = 7;
    private static final int CHECKPOINT_RECORD = 8, CREATE_RECORD = 9;

    // MODES of locks; for each MODE the bits of those that it goes together with, and of those that it covers.
    private static final int IS_MODE = 1, IX_MODE = 2, S_MODE = 3, X_MODE = 5;
    private static final int[] TOGETHER = {62, 30, 6, 10, 2, 0};
    private static final int[] COVERS = {0, 2, 6, 10, 30, 62};
    private static final long[] WHOLE_TABLE = {0, 0, 0};

    // Tokens: NUMBER and TEXT as above, a sign is its own character, a keyword its turn in KEYWORDS from CREATE on.
    private static final int END = 0, NAME = 4, LESS_EQUAL = 5, GREATER_EQUAL = 6, UNEQUAL = 7;
    private static final String SIGNS = "(),.*+-/%=<>";
    private static final String KEYWORDS = "create table index on insert into values update set where delete from begin commit rollback number truth text not null select distinct left join group by having order desc or and is in true false count sum min max exists ";
    private static final int MOST_WORDS = 40;
    private static final int CREATE = 200, TABLE = 201, INDEX = 202, ON = 203, INSERT = 204, INTO = 205;
    private static final int VALUES = 206, UPDATE = 207, SET = 208, WHERE = 209, DELETE = 210, FROM = 211;
    private static final int BEGIN = 212, COMMIT = 213, ROLLBACK = 214, NUMBER_WORD = 215, TEXT_WORD = 217;
    private static final int NOT = 218, NULL_WORD = 219, SELECT = 220, DISTINCT = 221, LEFT = 222, JOIN = 223;
    private static final int GROUP = 224, BY = 225, HAVING = 226, ORDER = 227, DESC = 228, OR = 229, AND = 230;
    private static final int IS = 231, IN = 232, TRUE = 233, FALSE = 234, COUNT = 235, MAX = 238, EXISTS = 239;

    private final Session[] sessions = new Session[SESSIONS];
    private final Table[] tables;
    private final Parser parser = new Parser();
    private final Checker checker;
    private final Evaluator evaluator = new Evaluator();
    private final Planner planner = new Planner();
    private final Locks locks = new Locks();
    private final Log journal;
    private final long[][] oldRows = new long[MOST_ROWS][];
    private final long[][] newRows = new long[MOST_ROWS][];
    private int changed;
    private int tableCount;
    private int indexCount;
    private int nextTransaction = 1;
    private boolean up = true;
    private boolean isLazy;

    public QueryHall() {
        for (int i = 0; i < SESSIONS; i++) {
            sessions[i] = new Session();
        }
        Table[] all = new Table[MOST_TABLES];
        tables = all;
        checker = new Checker(all);
        journal = new Log(all);
    }

    public int put(int session, long w, int n) throws IndexOutOfBoundsException, IllegalArgumentException {
        needSession(session);
        if (n < 1 || n > 8) {
            throw new IllegalArgumentException("from 1 to 8 bytes are put at once");
        }
        Session s = sessions[session];
        if (s.size + n > MOST_BYTES) {
            return NONE;
        }
        for (int i = 0; i < n; i++) {
            s.text[s.size] = (byte) (w >>> (8 * i));
            s.size++;
        }
        return s.size;
    }

    public int run(int session) throws IndexOutOfBoundsException, IllegalStateException {
        needSession(session);
        needUp();
        Session s = sessions[session];
        if (s.outcome == BLOCKED) {
            throw new IllegalStateException("the session is blocked");
        }
        s.forgetStatement();
        int size = s.size;
        s.size = 0;
        if (!parser.read(s.text, size, s.code)) {
            s.beWrong(parser.faultKind, parser.faultPlace);
        } else if (!checker.check(s.code)) {
            s.beWrong(checker.faultKind, checker.faultPlace);
        } else if (!isControlDone(session)) {
            evaluator.use(s.code);
            locks.prepare(session, s.code, evaluator);
        }
        goOn();
        endCall();
        return s.outcome;
    }

    public int outcome(int session) throws IndexOutOfBoundsException {
        needSession(session);
        return sessions[session].outcome;
    }

    public int why(int session, int what) throws IndexOutOfBoundsException {
        needSession(session);
        needWhat(what, 1);
        return what == 0 ? sessions[session].reason : sessions[session].faultPlace;
    }

    public boolean cancel(int session) throws IndexOutOfBoundsException {
        needSession(session);
        Session s = sessions[session];
        if (s.outcome != BLOCKED) {
            return false;
        }
        s.outcome = CANCELLED;
        if (s.begun) {
            locks.giveUpWait(session);
        } else {
            endTransaction(session);
        }
        goOn();
        endCall();
        return true;
    }

    public int answer(int session, int what) throws IndexOutOfBoundsException {
        needSession(session);
        needWhat(what, 1);
        return what == 0 ? sessions[session].rows : sessions[session].columns;
    }

    public int kind(int session, int row, int column) throws IndexOutOfBoundsException {
        int at = cellOf(session, row, column);
        return (int) sessions[session].cells[at];
    }

    public long number(int session, int row, int column) throws IndexOutOfBoundsException {
        int at = cellOf(session, row, column);
        long[] cells = sessions[session].cells;
        return cells[at] == TEXT ? Table.lettersOf(cells, at) : cells[at + 1];
    }

    public int letter(int session, int row, int column, int i) throws IndexOutOfBoundsException {
        int at = cellOf(session, row, column);
        long[] cells = sessions[session].cells;
        return cells[at] == TEXT ? Table.letterOf(cells, at, i) : 0;
    }

    public long plan(int session, int i, int what) throws IndexOutOfBoundsException {
        needSession(session);
        needWhat(what, 4);
        Session s = sessions[session];
        return i < 0 || i >= s.steps ? NONE : s.planned[5 * i + what];
    }

    public int held(int session, int table) throws IndexOutOfBoundsException {
        needSession(session);
        needTable(table);
        return locks.modeOf(session, table);
    }

    public int transaction(int session, int what) throws IndexOutOfBoundsException {
        needSession(session);
        needWhat(what, 4);
        Place p = locks.waitsAt[session];
        switch (what) {
            case 0:
                return sessions[session].transaction;
            case 1:
                return p == null ? NONE : p.table;
            case 2:
                return p == null || p.key[0] == NULL ? 0 : 1;
            case 3:
                return p == null ? NONE : p.want[session];
            default:
                return locks.keysOf(session);
        }
    }

    public boolean lazy(boolean on) {
        boolean was = isLazy;
        isLazy = on;
        endCall();
        return was;
    }

    public int sync() throws IllegalStateException {
        needUp();
        return journal.force();
    }

    public int checkpoint() throws IllegalStateException {
        needUp();
        if (journal.last + reserve() + 1 > MOST_RECORDS) {
            return NONE;
        }
        int first = journal.add(CHECKPOINT_RECORD, NONE, NONE);
        for (int i = 0; i < SESSIONS; i++) {
            int begin = sessions[i].begin;
            first = begin > 0 && begin < first ? begin : first;
        }
        journal.first = first;
        journal.force();
        return first;
    }

    public int crash(int k) throws IllegalArgumentException {
        if (k < 0) {
            throw new IllegalArgumentException("a crash keeps no less than no records");
        }
        int lost = journal.lose(k);
        for (int i = 0; i < SESSIONS; i++) {
            sessions[i].forgetAll();
        }
        locks.forgetAll();
        up = false;
        return lost;
    }

    public int recover(int n) throws IllegalArgumentException, IllegalStateException {
        if (n < 1 || n > MOST_STEPS) {
            throw new IllegalArgumentException("from 1 to 5000 steps are done at once");
        }
        if (up) {
            throw new IllegalStateException("the system is up");
        }
        int steps = journal.redo(n);
        if (journal.isRedone()) {
            steps += journal.undoLosers(n - steps);
            if (journal.losers == 0) {
                journal.force();
                up = true;
            }
        }
        endCall();
        return steps;
    }

    public int log(int record, int what) throws IndexOutOfBoundsException {
        if (record < journal.first || record > journal.last) {
            throw new IndexOutOfBoundsException("no such record");
        }
        needWhat(what, 4);
        switch (what) {
            case 0:
                return journal.kinds[record];
            case 1:
                return journal.transactions[record];
            case 2:
                return journal.tableNumbers[record];
            case 3:
                return journal.undoes[record];
            default:
                return record <= journal.durable ? 1 : 0;
        }
    }

    public int table(int table, int what) throws IndexOutOfBoundsException {
        needTable(table);
        needWhat(what, 2);
        Table t = tables[table];
        switch (what) {
            case 0:
                return up ? t.size : NONE;
            case 1:
                return t.columns;
            default:
                return t.indexes;
        }
    }

    public int told(int what) {
        switch (what) {
            case 0:
                return tableCount;
            case 1:
                return indexCount;
            case 2:
                return journal.last;
            case 3:
                return journal.first;
            case 4:
                return journal.durable;
            case 5:
                return up ? 1 : 0;
            case 6:
                return nextTransaction;
            case 7:
                return locks.waiters();
            default:
                return NONE;
        }
    }

    private static void needSession(int session) {
        if (session < 0 || session >= SESSIONS) {
            throw new IndexOutOfBoundsException("no such session");
        }
    }

    private static void needWhat(int what, int most) {
        if (what < 0 || what > most) {
            throw new IndexOutOfBoundsException("nothing is told of that");
        }
    }

    private void needTable(int table) {
        if (table < 0 || table >= MOST_TABLES || tables[table] == null) {
            throw new IndexOutOfBoundsException("no such table");
        }
    }

    private void needUp() {
        if (!up) {
            throw new IllegalStateException("the system is down");
        }
    }

    private int cellOf(int session, int row, int column) {
        needSession(session);
        Session s = sessions[session];
        if (row < 0 || row >= s.rows || column < 0 || column >= s.columns) {
            throw new IndexOutOfBoundsException("no such row or column");
        }
        return (row * s.columns + column) * CELL;
    }

    private void endCall() {
        if (!isLazy) {
            journal.force();
        }
    }

    /** Does a statement that asks no locks; another one gets its transaction, and is still to be done. */
    private boolean isControlDone(int session) {
        Session s = sessions[session];
        switch (s.code.statement) {
            case BEGIN:
                begin(s);
                return true;
            case COMMIT:
            case ROLLBACK:
                end(session);
                return true;
            case TABLE:
            case INDEX:
                create(s);
                return true;
            default:
                if (s.transaction == NONE) {
                    s.transaction = nextTransaction;
                    nextTransaction++;
                }
                return false;
        }
    }

    private void begin(Session s) {
        if (s.begun) {
            s.refuse(1);
            return;
        }
        s.begun = true;
        s.transaction = nextTransaction;
        nextTransaction++;
        s.outcome = 0;
    }

    private void end(int session) {
        Session s = sessions[session];
        if (!s.begun) {
            s.refuse(1);
            return;
        }
        if (s.code.statement == COMMIT) {
            journal.commit(s);
        } else {
            journal.rollBack(s);
        }
        s.outcome = 0;
        endTransaction(session);
    }

    private void create(Session s) {
        Code c = s.code;
        boolean full = c.statement == TABLE ? tableCount >= MOST_TABLES : indexCount >= MOST_INDEXES;
        for (int i = 0; i < SESSIONS; i++) {
            full = full || sessions[i].transaction != NONE;
        }
        if (full) {
            s.refuse(2);
            return;
        }
        if (journal.last + reserve() + 1 > MOST_RECORDS) {
            s.refuse(7);
            return;
        }
        int table = c.target;
        if (c.statement == TABLE) {
            table = tableCount;
            tables[table] = new Table(c);
            tableCount++;
        } else {
            tables[table].addIndex(c.names[0], indexCount, c.columns[0]);
            indexCount++;
        }
        journal.add(CREATE_RECORD, NONE, table);
        journal.force();
        s.outcome = 0;
    }

    /** Each session that can go on asks the locks that it has not yet, and does its statement when it has them all. */
    private void goOn() {
        for (int n = 0; n < MOST_TURNS; n++) {
            int session = locks.takeReady();
            if (session == NONE) {
                return;
            }
            Session s = sessions[session];
            s.outcome = locks.ask(session);
            if (s.outcome == DEADLOCK) {
                journal.rollBack(s);
                endTransaction(session);
            } else if (s.outcome != BLOCKED) {
                perform(s);
                if (!s.begun) {
                    journal.commit(s);
                    endTransaction(session);
                }
            }
        }
    }

    private void endTransaction(int session) {
        Session s = sessions[session];
        s.forgetTransaction();
        locks.release(session);
    }

    /** All is worked out first, which may be too much; then all is changed, or nothing. */
    private void perform(Session s) {
        Code c = s.code;
        Table t = c.target < 0 || c.target >= MOST_TABLES ? null : tables[c.target];
        evaluator.use(c);
        changed = 0;
        try {
            if (t == null && c.top != null) {
                evaluator.work(c.top, NONE);
                evaluator.tell(c.top, s);
            } else if (t == null) {
                return;
            } else if (c.statement == INSERT) {
                gatherInserts(c, t);
            } else {
                gatherRows(c, t);
            }
        } catch (IllegalStateException tooMuch) {
            s.refuse(6);
            return;
        }
        if (t == null) {
            planner.choose(s);
            s.outcome = s.rows;
        } else {
            change(s, t);
        }
    }

    private void change(Session s, Table t) {
        Code c = s.code;
        boolean setsKey = setsKey(c);
        int reason = c.statement == DELETE ? 0 : reasonAgainst(c, t);
        if (reason == 0 && c.statement == INSERT && overfull(s, t)) {
            reason = 5;
        }
        int records = setsKey ? 2 * changed : changed;
        int begins = s.begin == 0 && records > 0 ? 1 : 0;
        if (reason == 0 && journal.last + reserve() + 2 * records + 2 * begins > MOST_RECORDS) {
            reason = 7;
        }
        if (reason != 0) {
            s.refuse(reason);
            return;
        }
        for (int r = 0; r < changed; r++) {
            journal.change(s, c.target, oldRows[r], setsKey ? null : newRows[r]);
        }
        for (int r = 0; setsKey && r < changed; r++) {
            journal.change(s, c.target, null, newRows[r]);
        }
        s.outcome = changed;
    }

    private void gatherInserts(Code c, Table t) {
        int root = 0;
        for (int r = 0; r < c.rowCount && r < MOST_ROWS; r++) {
            long[] row = new long[t.columns * CELL];
            for (int i = 0; i < t.columns && root < c.rootCount; i++) {
                evaluator.valueInto(c.roots[root], row, i);
                root++;
            }
            oldRows[r] = null;
            newRows[r] = row;
            changed = r + 1;
        }
    }

    private void gatherRows(Code c, Table t) {
        for (int r = 0; r < t.size; r++) {
            long[] row = t.rows[r];
            evaluator.stand(row);
            if (row == null || c.top == null || c.top.where != NONE && !evaluator.isTrue(c.top.where)) {
                continue;
            }
            long[] next = c.statement == UPDATE ? Arrays.copyOf(row, row.length) : null;
            for (int i = 0; next != null && i < c.rootCount && i < MOST_COLUMNS; i++) {
                evaluator.valueInto(c.roots[i], next, c.columns[i]);
            }
            oldRows[changed] = row;
            newRows[changed] = next;
            changed++;
        }
    }

    private static boolean setsKey(Code c) {
        for (int i = 0; c.statement == UPDATE && i < c.rootCount && i < MOST_COLUMNS; i++) {
            if (c.columns[i] == 0) {
                return true;
            }
        }
        return false;
    }

    private int reasonAgainst(Code c, Table t) {
        for (int r = 0; r < changed; r++) {
            for (int i = 0; i < t.columns; i++) {
                if (t.filled[i] && newRows[r][i * CELL] == NULL) {
                    return 3;
                }
            }
        }
        boolean keysChange = c.statement == INSERT || setsKey(c);
        for (int r = 0; keysChange && r < changed; r++) {
            if (isKeyTaken(t, r)) {
                return 4;
            }
        }
        return 0;
    }

    private boolean isKeyTaken(Table t, int r) {
        for (int i = 0; i < r; i++) {
            if (Table.compare(newRows[i], 0, newRows[r], 0) == 0) {
                return true;
            }
        }
        if (t.find(newRows[r]) < 0) {
            return false;
        }
        for (int i = 0; i < changed; i++) {
            if (oldRows[i] != null && Table.compare(oldRows[i], 0, newRows[r], 0) == 0) {
                return false;
            }
        }
        return true;
    }

    private boolean overfull(Session s, Table t) {
        int rows = t.size + changed;
        for (int i = 0; i < SESSIONS; i++) {
            if (sessions[i] != s) {
                rows += journal.deletedBy(sessions[i], s.code.target);
            }
        }
        return rows > MOST_ROWS;
    }

    private int reserve() {
        int reserve = 0;
        for (int i = 0; i < SESSIONS; i++) {
            reserve += sessions[i].begin > 0 ? 1 + sessions[i].openRecords : 0;
        }
        return reserve;
    }

    /** What belongs to one session: its TEXT, latest statement, answer, plan and transaction. */
    private static final class Session {
        final byte[] text = new byte[MOST_BYTES];
        final Code code = new Code();
        final long[] cells = new long[MOST_ANSWERS * MOST_ITEMS * MOST_COLUMNS * CELL];
        final long[] planned = new long[MOST_ITEMS * 5];
        int size;
        int outcome = NONE;
        int reason = NONE;
        int faultPlace = NONE;
        int rows = NONE;
        int columns = NONE;
        int steps;
        int transaction = NONE;
        boolean begun;
        // The numbers of its BEGIN and of its last record that is not undone, 0 for none, and how many of these.
        int begin;
        int lastRecord;
        int openRecords;

        void forgetStatement() {
            outcome = NONE;
            reason = NONE;
            faultPlace = NONE;
            rows = NONE;
            columns = NONE;
            steps = 0;
        }

        void forgetTransaction() {
            transaction = NONE;
            begun = false;
            begin = 0;
            lastRecord = 0;
            openRecords = 0;
        }

        void forgetAll() {
            size = 0;
            forgetStatement();
            forgetTransaction();
        }

        void beWrong(int kind, int place) {
            outcome = WRONG;
            reason = kind;
            faultPlace = place;
        }

        void refuse(int why) {
            outcome = REFUSED;
            reason = why;
        }
    }

    /** A table with its rows in the order of their KEYS; and what can be done with cells. */
    private static final class Table {
        final long name;
        final int columns;
        final long[] columnNames = new long[MOST_COLUMNS];
        final int[] types = new int[MOST_COLUMNS];
        final boolean[] filled = new boolean[MOST_COLUMNS];
        final long[][] rows = new long[MOST_ROWS][];
        final long[] indexNames = new long[MOST_INDEXES];
        final int[] indexNumbers = new int[MOST_INDEXES];
        final int[] indexColumns = new int[MOST_INDEXES];
        int size;
        int indexes;

        Table(Code c) {
            name = c.names[0];
            columns = c.nameCount - 1;
            for (int i = 0; i < columns && i < MOST_COLUMNS; i++) {
                columnNames[i] = c.names[i + 1];
                types[i] = c.columns[i];
                filled[i] = i == 0 || c.filled[i];
            }
        }

        int columnOf(long called) {
            for (int i = 0; i < columns; i++) {
                if (columnNames[i] == called) {
                    return i;
                }
            }
            return NONE;
        }

        void addIndex(long called, int number, int column) {
            if (indexes < MOST_INDEXES) {
                indexNames[indexes] = called;
                indexNumbers[indexes] = number;
                indexColumns[indexes] = column;
                indexes++;
            }
        }

        /** Where the row with the KEY of this one stands; if there is none, NONE less the place where it would stand. */
        int find(long[] row) {
            int at = 0;
            while (at < size && compare(rows[at], 0, row, 0) < 0) {
                at++;
            }
            return at < size && compare(rows[at], 0, row, 0) == 0 ? at : NONE - at;
        }

        /** Turns a row (null: one that was not there) into another one of the same KEY (null: it is there no more). */
        void turn(long[] from, long[] to) {
            long[] row = to == null ? from : to;
            if (row == null) {
                return;
            }
            int at = find(row);
            if (from == null && at < 0 && size < MOST_ROWS) {
                at = NONE - at;
                for (int i = size; i > at; i--) {
                    rows[i] = rows[i - 1];
                }
                size++;
            } else if (to == null && at >= 0) {
                size--;
                for (int i = at; i < size; i++) {
                    rows[i] = rows[i + 1];
                }
                at = size;
            }
            if (at >= 0) {
                rows[at] = to;
            }
        }

        /** Puts two cells in order: NULL before all others; cells that are compared are of one type. */
        static int compare(long[] a, int i, long[] b, int j) {
            int x = i * CELL;
            int y = j * CELL;
            if (a[x] != b[y]) {
                return a[x] < b[y] ? -1 : 1;
            }
            if (a[x + 1] != b[y + 1]) {
                return a[x + 1] < b[y + 1] ? -1 : 1;
            }
            return Long.compare(a[x + 2], b[y + 2]);
        }

        static int letterOf(long[] cells, int at, int i) {
            if (i < 0 || i >= MOST_LETTERS) {
                return 0;
            }
            long part = i < 8 ? cells[at + 1] >>> (56 - 8 * i) : cells[at + 2] >>> (56 - 8 * (i - 8));
            return (int) (part & 255);
        }

        static int lettersOf(long[] cells, int at) {
            int n = 0;
            while (n < MOST_LETTERS && letterOf(cells, at, n) != 0) {
                n++;
            }
            return n;
        }
    }

    /** A table that a SELECT (or update, delete) looks at, by its ITEM. */
    private static final class Item {
        long name;
        long called;
        int nameAt;
        int calledAt;
        boolean left;
        int on;
        // The table's number and the table itself, NONE and null if its name means nothing.
        int table;
        Table source;
    }

    /** A SELECT as it was read; or what stands around an update's, delete's, insert's EXPRS (at is NONE then). */
    private static final class Select {
        final int[] list = new int[MOST_COLUMNS];
        final Item[] items = new Item[MOST_ITEMS];
        final int[] group = new int[MOST_KEYS_OF_ORDER];
        final int[] order = new int[MOST_KEYS_OF_ORDER];
        final boolean[] desc = new boolean[MOST_KEYS_OF_ORDER];
        Select around;
        int level;
        int at;
        int star;
        int listCount;
        int itemCount;
        int where;
        int groupCount;
        int having;
        int orderCount;
        int lastAgg;
        boolean distinct;
        boolean grouped;

        Select() {
            for (int i = 0; i < MOST_ITEMS; i++) {
                items[i] = new Item();
            }
        }

        void clear(Select outer, int place) {
            around = outer;
            level = outer == null ? 0 : outer.level + 1;
            at = place;
            star = NONE;
            listCount = 0;
            itemCount = 0;
            where = NONE;
            groupCount = 0;
            having = NONE;
            orderCount = 0;
            lastAgg = NONE;
            distinct = false;
            grouped = false;
        }

        Item addItem(long name, int place) {
            Item item = items[itemCount < MOST_ITEMS ? itemCount : 0];
            itemCount = itemCount < MOST_ITEMS ? itemCount + 1 : itemCount;
            item.name = name;
            item.called = name;
            item.nameAt = place;
            item.calledAt = place;
            item.table = NONE;
            item.source = null;
            item.left = false;
            item.on = NONE;
            return item;
        }
    }

    /**
     * A statement as it was read. Its EXPRS are nodes in postfix order, each EXPR from first[root] to root; what stands
     * in an AGG or is a SELECT within lies there too, behind a SKIP whose arg is the node that it belongs to.
     */
    private static final class Code {
        static final int SIZE = 512;
        static final int LITERAL = 1, REF = 2, SKIP = 3, COUNT_ALL = 4, COUNTS = 5, SUMS = 6, LEAST = 7, GREATEST = 8;
        static final int HAS_ROWS = 9, IN_SELECT = 10, IN_LIST = 11, NEGATE = 12, IS_NULL = 13, INVERT = 14;
        static final int PLUS = 15, MINUS = 16, TIMES = 17, OVER = 18, REST = 19;
        static final int EQUAL = 20, DIFFERENT = 21, LESS = 22, AT_MOST = 23, GREATER = 24, AT_LEAST = 25;
        static final int BOTH = 26, EITHER = 27;

        final int[] op = new int[SIZE];
        final int[] at = new int[SIZE];
        final int[] start = new int[SIZE];
        final int[] first = new int[SIZE];
        final int[] arg = new int[SIZE];
        final long[] cells = new long[SIZE * CELL];
        final long[] names = new long[MOST_COLUMNS + 1];
        final int[] nameAt = new int[MOST_COLUMNS + 1];
        // Of create table the columns' types; of update the columns that are set, of create index its column.
        final int[] columns = new int[MOST_COLUMNS];
        final boolean[] filled = new boolean[MOST_COLUMNS];
        final int[] roots = new int[MOST_INSERTS * MOST_COLUMNS];
        final int[] rowAt = new int[MOST_INSERTS];
        final int[] rowSize = new int[MOST_INSERTS];
        final ArrayList<Select> selects = new ArrayList<>();
        int statement;
        int count;
        int nameCount;
        int rootCount;
        int rowCount;
        int selectCount;
        int target;
        Select top;

        void clear() {
            statement = NONE;
            count = 0;
            nameCount = 0;
            rootCount = 0;
            rowCount = 0;
            selectCount = 0;
            target = NONE;
            top = null;
        }

        int add(int what, int place, int from, int firstNode, int extra) {
            int i = count < SIZE ? count : SIZE - 1;
            op[i] = what;
            at[i] = place;
            start[i] = from;
            first[i] = firstNode;
            arg[i] = extra;
            count = i + 1;
            return i;
        }

        void addName(long name, int place) {
            if (nameCount <= MOST_COLUMNS) {
                names[nameCount] = name;
                nameAt[nameCount] = place;
                nameCount++;
            }
        }

        void addRoot(int root) {
            if (rootCount < roots.length) {
                roots[rootCount] = root;
                rootCount++;
            }
        }

        Select addSelect(Select around, int place) {
            if (selectCount >= selects.size()) {
                selects.add(new Select());
            }
            Select s = selects.get(selectCount);
            selectCount++;
            s.clear(around, place);
            if (around == null) {
                top = s;
            }
            return s;
        }

        /** The SELECT within a node, or null. */
        Select selectOf(int node) {
            int n = arg[node];
            return n >= 0 && n < selectCount && n < selects.size() ? selects.get(n) : null;
        }

        /** The root of the left one of a node's two EXPRS; that of the right one is the node before it. */
        int leftOf(int node) {
            return node < 1 ? NONE : first[node - 1] - 1;
        }

        static boolean isAgg(int what) {
            return what >= COUNT_ALL && what <= GREATEST;
        }

        /**
         * Puts the PARTS of an EXPR, in order, into a row from a place on: the place behind them. They are found from the
         * last one on: before an 'and' stands its right side, and before that, its left one.
         */
        int split(int root, int[] parts, int from) {
            int to = from;
            int node = root;
            while (root != NONE && node >= first[root] && to < parts.length) {
                if (op[node] == BOTH) {
                    node--;
                } else {
                    parts[to] = node;
                    to++;
                    node = first[node] - 1;
                }
            }
            for (int i = from, j = to - 1; i < j; i++, j--) {
                int part = parts[i];
                parts[i] = parts[j];
                parts[j] = part;
            }
            return to;
        }

        /** If a PART is c = x or x = c, with c the REF to that column: the root of x, else NONE. */
        int equalTo(int part, int column) {
            int left = leftOf(part);
            if (op[part] != EQUAL || left < 0) {
                return NONE;
            }
            if (op[left] == REF && arg[left] == column && !hasItem(part - 1, column)) {
                return part - 1;
            }
            return op[part - 1] == REF && arg[part - 1] == column && !hasItem(left, column) ? left : NONE;
        }

        /** Whether an EXPR has a REF to the ITEM of a column. */
        boolean hasItem(int root, int column) {
            for (int i = first[root]; i <= root; i++) {
                if (op[i] == REF && arg[i] >> COLUMN_BITS == column >> COLUMN_BITS) {
                    return true;
                }
            }
            return false;
        }

        boolean isConstant(int root) {
            for (int i = first[root]; i <= root; i++) {
                if (op[i] == REF || op[i] == SKIP || op[i] == COUNT_ALL) {
                    return false;
                }
            }
            return true;
        }

        /** The root of the EXPR to which a SELECT's only ITEM, or an update's, delete's table, is PINNED, or NONE. */
        int pinnedTo(Select s, int[] parts) {
            if (s.itemCount != 1) {
                return NONE;
            }
            int n = split(s.where, parts, 0);
            for (int i = 0; i < n; i++) {
                int x = equalTo(parts[i], columnCode(s.level, 0, 0));
                if (x != NONE && isConstant(x)) {
                    return x;
                }
            }
            return NONE;
        }

        static int columnCode(int level, int item, int column) {
            return (level * MOST_ITEMS + item) << COLUMN_BITS | column;
        }
    }

    /** Reads a TEXT's tokens and its grammar into a Code; FAULTS of kinds 1 and 2. */
    private static final class Parser {
        final long[] words = new long[MOST_WORDS];
        final int[] kinds = new int[MOST_BYTES + 1];
        final int[] places = new int[MOST_BYTES + 1];
        final long[] values = new long[(MOST_BYTES + 1) * CELL];
        int tokens;
        int pos;
        Code code;
        Select current;
        boolean inOn;
        int faultKind;
        int faultPlace;

        Parser() {
            int n = 0;
            long packed = 0;
            for (int i = 0; i < KEYWORDS.length() && n < MOST_WORDS; i++) {
                if (KEYWORDS.charAt(i) == ' ') {
                    words[n] = packed;
                    n++;
                    packed = 0;
                } else {
                    packed = packed * 37 + KEYWORDS.charAt(i) - 'a' + 1;
                }
            }
        }

        boolean read(byte[] text, int size, Code into) {
            code = into;
            code.clear();
            faultKind = 1;
            if (!readTokens(text, size)) {
                return false;
            }
            pos = 0;
            current = null;
            inOn = false;
            try {
                readStatement();
            } catch (IllegalArgumentException noStatement) {
                faultKind = 2;
                faultPlace = places[pos];
                return false;
            }
            return true;
        }

        boolean readTokens(byte[] text, int size) {
            tokens = 0;
            int i = 0;
            while (i < size) {
                if (text[i] == 32 || text[i] == 10) {
                    i++;
                    continue;
                }
                int next = readToken(text, size, i);
                if (next <= i) {
                    faultPlace = i;
                    return false;
                }
                places[tokens] = i;
                tokens++;
                i = next;
            }
            kinds[tokens] = END;
            places[tokens] = size;
            return true;
        }

        /** Reads the token that begins at a place: the place behind it, or NONE where there is no good one. */
        int readToken(byte[] text, int size, int from) {
            int c = text[from];
            setValue(NULL, 0, 0);
            if (isLetter(c)) {
                return readWord(text, size, from);
            }
            if (isDigit(c)) {
                return readNumber(text, size, from);
            }
            if (c == '\'') {
                return readText(text, size, from);
            }
            return readSign(c, from + 1 < size ? text[from + 1] : 0, from);
        }

        static boolean isLetter(int c) {
            return c >= 'a' && c <= 'z';
        }

        static boolean isDigit(int c) {
            return c >= '0' && c <= '9';
        }

        void setValue(int kind, long high, long low) {
            values[tokens * CELL] = kind;
            values[tokens * CELL + 1] = high;
            values[tokens * CELL + 2] = low;
        }

        int readWord(byte[] text, int size, int from) {
            long packed = 0;
            int i = from;
            while (i < size && (isLetter(text[i]) || isDigit(text[i]))) {
                packed = packed * 37 + (isLetter(text[i]) ? text[i] - 'a' + 1 : text[i] - '0' + 27);
                i++;
            }
            if (i - from > 10) {
                return NONE;
            }
            kinds[tokens] = NAME;
            for (int n = 0; n < MOST_WORDS; n++) {
                if (words[n] == packed) {
                    kinds[tokens] = CREATE + n;
                }
            }
            setValue(NAME, packed, 0);
            return i;
        }

        int readNumber(byte[] text, int size, int from) {
            long n = 0;
            int i = from;
            while (i < size && isDigit(text[i])) {
                int digit = text[i] - '0';
                if (n > (GREATEST_NUMBER - digit) / 10) {
                    return NONE;
                }
                n = n * 10 + digit;
                i++;
            }
            kinds[tokens] = NUMBER;
            setValue(NUMBER, n, 0);
            return i;
        }

        /** Bytes stand in two longs from their highest byte on, so that longs are in order as texts are. */
        int readText(byte[] text, int size, int from) {
            long high = 0;
            long low = 0;
            int i = from + 1;
            while (i < size && text[i] >= 32 && text[i] <= 126 && text[i] != '\'') {
                int n = i - from - 1;
                if (n >= MOST_LETTERS) {
                    return NONE;
                }
                if (n < 8) {
                    high |= (long) text[i] << (56 - 8 * n);
                } else {
                    low |= (long) text[i] << (56 - 8 * (n - 8));
                }
                i++;
            }
            if (i >= size || text[i] != '\'') {
                return NONE;
            }
            kinds[tokens] = TEXT;
            setValue(TEXT, high, low);
            return i + 1;
        }

        int readSign(int c, int next, int from) {
            if (c < 0 || SIGNS.indexOf((char) c) < 0) {
                return NONE;
            }
            kinds[tokens] = c;
            if (c == '<' && next == '>') {
                kinds[tokens] = UNEQUAL;
            } else if (c == '<' && next == '=') {
                kinds[tokens] = LESS_EQUAL;
            } else if (c == '>' && next == '=') {
                kinds[tokens] = GREATER_EQUAL;
            }
            return kinds[tokens] == c ? from + 1 : from + 2;
        }

        void fail() {
            throw new IllegalArgumentException("no statement has this token here");
        }

        boolean accept(int kind) {
            if (kinds[pos] != kind) {
                return false;
            }
            pos++;
            return true;
        }

        void expect(int kind) {
            if (kinds[pos] != kind) {
                throw new IllegalArgumentException("no statement has this token here");
            }
            pos++;
        }

        void expectName() {
            code.addName(values[pos * CELL + 1], places[pos]);
            expect(NAME);
        }

        int last() {
            return code.count - 1;
        }

        void readStatement() {
            int word = kinds[pos];
            code.statement = word;
            switch (word) {
                case SELECT:
                    select(0);
                    break;
                case CREATE:
                    pos++;
                    readCreate();
                    break;
                case INSERT:
                    pos++;
                    readInsert();
                    break;
                case UPDATE:
                    pos++;
                    readUpdate();
                    break;
                case DELETE:
                    pos++;
                    expect(FROM);
                    readTarget();
                    readWhere(current, 0);
                    break;
                case BEGIN:
                case COMMIT:
                case ROLLBACK:
                    pos++;
                    break;
                default:
                    fail();
            }
            expect(END);
        }

        void readCreate() {
            code.statement = kinds[pos];
            if (accept(TABLE)) {
                expectName();
                expect('(');
                readColumns();
                return;
            }
            expect(INDEX);
            expectName();
            expect(ON);
            expectName();
            expect('(');
            expectName();
            expect(')');
        }

        void readColumns() {
            for (int n = 0; n < MOST_COLUMNS; n++) {
                expectName();
                int type = kinds[pos];
                if (type < NUMBER_WORD || type > TEXT_WORD) {
                    fail();
                }
                pos++;
                code.columns[n] = type - NUMBER_WORD + NUMBER;
                code.filled[n] = accept(NOT);
                if (code.filled[n]) {
                    expect(NULL_WORD);
                }
                if (!accept(',')) {
                    expect(')');
                    return;
                }
            }
            fail();
        }

        void readInsert() {
            expect(INTO);
            expectName();
            expect(VALUES);
            current = code.addSelect(null, NONE);
            for (int n = 0; n < MOST_INSERTS; n++) {
                code.rowAt[n] = places[pos];
                code.rowCount = n + 1;
                expect('(');
                boolean more = true;
                for (int i = 0; i < MOST_COLUMNS && more; i++) {
                    expr(0);
                    code.addRoot(last());
                    code.rowSize[n] = i + 1;
                    more = accept(',');
                }
                if (more) {
                    fail();
                }
                expect(')');
                if (!accept(',')) {
                    return;
                }
            }
            fail();
        }

        void readTarget() {
            expectName();
            current = code.addSelect(null, NONE);
            current.addItem(code.names[0], code.nameAt[0]);
        }

        void readUpdate() {
            readTarget();
            expect(SET);
            boolean more = true;
            for (int n = 0; n < MOST_COLUMNS && more; n++) {
                expectName();
                expect('=');
                expr(0);
                code.addRoot(last());
                more = accept(',');
            }
            if (more) {
                fail();
            }
            readWhere(current, 0);
        }

        void readWhere(Select s, int depth) {
            if (accept(WHERE)) {
                expr(depth);
                s.where = last();
            }
        }

        void select(int depth) {
            if (inOn || current != null && current.level >= MOST_LEVEL) {
                fail();
            }
            Select outer = current;
            Select s = code.addSelect(outer, places[pos]);
            current = s;
            pos++;
            s.distinct = accept(DISTINCT);
            readList(s, depth);
            expect(FROM);
            readItems(s, depth);
            readWhere(s, depth);
            readGroup(s, depth);
            readOrder(s, depth);
            current = outer;
        }

        void readList(Select s, int depth) {
            int place = places[pos];
            if (accept('*')) {
                s.star = place;
                return;
            }
            for (int n = 0; n < MOST_COLUMNS; n++) {
                expr(depth);
                s.list[n] = last();
                s.listCount = n + 1;
                if (!accept(',')) {
                    return;
                }
            }
            fail();
        }

        void readItems(Select s, int depth) {
            readItem(s);
            for (int n = 1; n <= MOST_ITEMS; n++) {
                boolean left = accept(LEFT);
                if (!left && kinds[pos] != JOIN) {
                    return;
                }
                expect(JOIN);
                if (n == MOST_ITEMS) {
                    fail();
                }
                Item item = readItem(s);
                item.left = left;
                expect(ON);
                inOn = true;
                expr(depth);
                inOn = false;
                item.on = last();
            }
        }

        Item readItem(Select s) {
            Item item = s.addItem(values[pos * CELL + 1], places[pos]);
            expect(NAME);
            if (kinds[pos] == NAME) {
                item.called = values[pos * CELL + 1];
                item.calledAt = places[pos];
                pos++;
            }
            return item;
        }

        void readGroup(Select s, int depth) {
            if (accept(GROUP)) {
                expect(BY);
                s.grouped = true;
                boolean more = true;
                for (int n = 0; n < MOST_KEYS_OF_ORDER && more; n++) {
                    readRef();
                    s.group[n] = last();
                    s.groupCount = n + 1;
                    more = accept(',');
                }
                if (more) {
                    fail();
                }
            }
            if (accept(HAVING)) {
                s.grouped = true;
                expr(depth);
                s.having = last();
            }
        }

        void readOrder(Select s, int depth) {
            if (!accept(ORDER)) {
                return;
            }
            expect(BY);
            for (int n = 0; n < MOST_KEYS_OF_ORDER; n++) {
                expr(depth);
                s.order[n] = last();
                s.orderCount = n + 1;
                s.desc[n] = accept(DESC);
                if (!accept(',')) {
                    return;
                }
            }
            fail();
        }

        void binary(int what, int left, int place) {
            code.add(what, place, code.start[left], code.first[left], NONE);
        }

        void unary(int what, int place, int from) {
            code.add(what, place, from, code.first[last()], NONE);
        }

        void expr(int depth) {
            and(depth);
            for (int n = 0; n < MOST_BYTES && kinds[pos] == OR; n++) {
                int left = last();
                int place = places[pos];
                pos++;
                and(depth);
                binary(Code.EITHER, left, place);
            }
        }

        void and(int depth) {
            not(depth);
            for (int n = 0; n < MOST_BYTES && kinds[pos] == AND; n++) {
                int left = last();
                int place = places[pos];
                pos++;
                not(depth);
                binary(Code.BOTH, left, place);
            }
        }

        /** What is one deeper than a depth; the token that would be too deep is the FAULT. */
        int deeper(int depth) {
            if (depth >= MOST_DEPTH) {
                fail();
            }
            return depth + 1;
        }

        void not(int depth) {
            if (kinds[pos] != NOT) {
                test(depth);
                return;
            }
            int place = places[pos];
            int inner = deeper(depth);
            pos++;
            not(inner);
            unary(Code.INVERT, place, place);
        }

        static int comparison(int token) {
            switch (token) {
                case '=':
                    return Code.EQUAL;
                case UNEQUAL:
                    return Code.DIFFERENT;
                case '<':
                    return Code.LESS;
                case LESS_EQUAL:
                    return Code.AT_MOST;
                case '>':
                    return Code.GREATER;
                case GREATER_EQUAL:
                    return Code.AT_LEAST;
                default:
                    return NONE;
            }
        }

        void test(int depth) {
            sum(depth);
            int left = last();
            int place = places[pos];
            int compare = comparison(kinds[pos]);
            if (compare != NONE) {
                pos++;
                sum(depth);
                binary(compare, left, place);
                return;
            }
            boolean inverted = false;
            if (accept(IS)) {
                inverted = accept(NOT);
                expect(NULL_WORD);
                unary(Code.IS_NULL, place, code.start[left]);
            } else {
                inverted = accept(NOT);
                if (!inverted && kinds[pos] != IN) {
                    return;
                }
                expect(IN);
                readIn(left, place, depth);
            }
            if (inverted) {
                unary(Code.INVERT, place, code.start[left]);
            }
        }

        /** Goes through the ( of what stands in it: its depth. */
        int open(int depth) {
            if (kinds[pos] != '(' || depth >= MOST_DEPTH) {
                fail();
            }
            pos++;
            return depth + 1;
        }

        void readIn(int left, int place, int depth) {
            int inner = open(depth);
            if (kinds[pos] == SELECT) {
                readWithin(Code.IN_SELECT, left, place, inner);
                return;
            }
            boolean more = true;
            int n = 0;
            while (n < MOST_IN && more) {
                expr(inner);
                n++;
                more = accept(',');
            }
            if (more) {
                fail();
            }
            expect(')');
            code.add(Code.IN_LIST, place, code.start[left], code.first[left], n);
        }

        /** Reads a SELECT in ( ) whose ( is read; left is the root of what stands before 'in', or NONE. */
        void readWithin(int what, int left, int place, int depth) {
            int skip = code.add(Code.SKIP, place, place, code.count, NONE);
            int number = code.selectCount;
            if (kinds[pos] != SELECT) {
                fail();
            }
            select(depth);
            expect(')');
            int from = left == NONE ? place : code.start[left];
            code.arg[skip] = code.add(what, place, from, left == NONE ? skip : code.first[left], number);
        }

        void sum(int depth) {
            term(depth);
            for (int n = 0; n < MOST_BYTES && (kinds[pos] == '+' || kinds[pos] == '-'); n++) {
                int left = last();
                int place = places[pos];
                int what = kinds[pos] == '+' ? Code.PLUS : Code.MINUS;
                pos++;
                term(depth);
                binary(what, left, place);
            }
        }

        void term(int depth) {
            factor(depth);
            for (int n = 0; n < MOST_BYTES && (kinds[pos] == '*' || kinds[pos] == '/' || kinds[pos] == '%'); n++) {
                int left = last();
                int place = places[pos];
                int what = kinds[pos] == '*' ? Code.TIMES : kinds[pos] == '/' ? Code.OVER : Code.REST;
                pos++;
                factor(depth);
                binary(what, left, place);
            }
        }

        void factor(int depth) {
            int place = places[pos];
            switch (kinds[pos]) {
                case '-':
                    int inner = deeper(depth);
                    pos++;
                    factor(inner);
                    unary(Code.NEGATE, place, place);
                    break;
                case NUMBER:
                case TEXT:
                case NULL_WORD:
                case TRUE:
                case FALSE:
                    readLiteral();
                    break;
                case NAME:
                    readRef();
                    break;
                case EXISTS:
                    pos++;
                    readWithin(Code.HAS_ROWS, NONE, place, open(depth));
                    break;
                case '(':
                    expr(open(depth));
                    expect(')');
                    code.start[last()] = place;
                    break;
                default:
                    readAgg(depth);
            }
        }

        void readLiteral() {
            int node = code.add(Code.LITERAL, places[pos], places[pos], code.count, NONE);
            int word = kinds[pos];
            if (word == NUMBER || word == TEXT) {
                System.arraycopy(values, pos * CELL, code.cells, node * CELL, CELL);
            } else {
                code.cells[node * CELL] = word == NULL_WORD ? NULL : TRUTH;
                code.cells[node * CELL + 1] = word == TRUE ? 1 : 0;
                code.cells[node * CELL + 2] = 0;
            }
            pos++;
        }

        void readRef() {
            int node = code.add(Code.REF, places[pos], places[pos], code.count, NONE);
            code.cells[node * CELL] = values[pos * CELL + 1];
            code.cells[node * CELL + 1] = 0;
            expect(NAME);
            if (accept('.')) {
                code.cells[node * CELL + 1] = values[pos * CELL + 1];
                expect(NAME);
            }
        }

        /** The AGGS of a SELECT are a chain by their args, so that they are found without going through all nodes. */
        void readAgg(int depth) {
            int word = kinds[pos];
            int place = places[pos];
            if (word < COUNT || word > MAX || current == null) {
                fail();
            }
            pos++;
            int inner = open(depth);
            Select owner = current;
            owner.grouped = true;
            if (word == COUNT && accept('*')) {
                expect(')');
                owner.lastAgg = code.add(Code.COUNT_ALL, place, place, code.count, owner.lastAgg);
                return;
            }
            int skip = code.add(Code.SKIP, place, place, code.count, NONE);
            expr(inner);
            expect(')');
            int node = code.add(Code.COUNTS + word - COUNT, place, place, skip, owner.lastAgg);
            code.arg[skip] = node;
            owner.lastAgg = node;
        }
    }

    /** Finds what names mean and whether types fit; FAULTS of kinds 3 to 5. */
    private static final class Checker {
        final Table[] tables;
        final int[] types = new int[Code.SIZE];
        // How many FAULTS of kinds 3 and 4 there were before a node: more of them behind it make it of any type.
        final int[] marksBefore = new int[Code.SIZE];
        final boolean[] inGroupedPart = new boolean[MOST_LEVEL + 1];
        final int[] aggsAround = new int[MOST_LEVEL + 1];
        final int[] seenItems = new int[MOST_LEVEL + 1];
        Code code;
        int marks;
        int faultKind;
        int faultPlace;

        Checker(Table[] all) {
            tables = all;
        }

        boolean check(Code c) {
            code = c;
            marks = 0;
            faultKind = NONE;
            faultPlace = NONE;
            switch (c.statement) {
                case TABLE:
                    checkCreateTable();
                    break;
                case INDEX:
                    checkCreateIndex();
                    break;
                case INSERT:
                    checkInsert();
                    break;
                case UPDATE:
                case DELETE:
                    checkTarget();
                    break;
                case SELECT:
                    checkSelect(c.top);
                    break;
                default:
                    break;
            }
            return faultKind == NONE;
        }

        void fault(int kind, int place) {
            if (kind < 5) {
                marks++;
            }
            if (faultKind == NONE || place < faultPlace || place == faultPlace && kind < faultKind) {
                faultKind = kind;
                faultPlace = place;
            }
        }

        int tableOf(long name) {
            for (int i = 0; i < MOST_TABLES; i++) {
                if (tables[i] != null && tables[i].name == name) {
                    return i;
                }
            }
            return NONE;
        }

        void checkCreateTable() {
            if (tableOf(code.names[0]) != NONE) {
                fault(3, code.nameAt[0]);
            }
            checkNewNames();
            if (code.columns[0] == TRUTH) {
                fault(5, code.nameAt[1]);
            }
        }

        /** The names behind the first one must all be different. */
        void checkNewNames() {
            for (int i = 2; i < code.nameCount; i++) {
                for (int j = 1; j < i; j++) {
                    if (code.names[i] == code.names[j]) {
                        fault(3, code.nameAt[i]);
                    }
                }
            }
        }

        void checkCreateIndex() {
            if (isIndex(code.names[0])) {
                fault(3, code.nameAt[0]);
            }
            code.target = tableOf(code.names[1]);
            if (code.target == NONE) {
                fault(3, code.nameAt[1]);
                return;
            }
            code.columns[0] = tables[code.target].columnOf(code.names[2]);
            if (code.columns[0] == NONE) {
                fault(3, code.nameAt[2]);
            }
        }

        boolean isIndex(long name) {
            for (int i = 0; i < MOST_TABLES; i++) {
                Table t = tables[i];
                for (int j = 0; t != null && j < t.indexes; j++) {
                    if (t.indexNames[j] == name) {
                        return true;
                    }
                }
            }
            return false;
        }

        void enter(Select s) {
            seenItems[s.level] = s.itemCount;
            inGroupedPart[s.level] = false;
            aggsAround[s.level] = 0;
        }

        void checkInsert() {
            code.target = tableOf(code.names[0]);
            Table t = code.target == NONE ? null : tables[code.target];
            if (t == null) {
                fault(3, code.nameAt[0]);
            }
            enter(code.top);
            int root = 0;
            for (int r = 0; r < code.rowCount; r++) {
                if (t != null && code.rowSize[r] != t.columns) {
                    fault(5, code.rowAt[r]);
                }
                for (int i = 0; i < code.rowSize[r] && root < code.rootCount; i++) {
                    walk(code.roots[root], code.top);
                    if (t != null && i < t.columns) {
                        need(code.roots[root], t.types[i]);
                    }
                    root++;
                }
            }
        }

        void checkTarget() {
            Select top = code.top;
            checkItems(top);
            enter(top);
            code.target = top.items[0].table;
            Table t = code.target == NONE ? null : tables[code.target];
            checkNewNames();
            for (int i = 0; i < code.rootCount && i < MOST_COLUMNS; i++) {
                walk(code.roots[i], top);
                code.columns[i] = t == null ? NONE : t.columnOf(code.names[i + 1]);
                if (code.columns[i] == NONE) {
                    fault(3, code.nameAt[i + 1]);
                } else {
                    need(code.roots[i], t.types[code.columns[i]]);
                }
            }
            checkTruth(top.where, top);
        }

        void checkItems(Select s) {
            for (int i = 0; i < s.itemCount; i++) {
                Item item = s.items[i];
                item.table = tableOf(item.name);
                item.source = item.table == NONE ? null : tables[item.table];
                if (item.source == null) {
                    fault(3, item.nameAt);
                }
                for (int j = 0; j < i; j++) {
                    if (s.items[j].called == item.called) {
                        fault(3, item.calledAt);
                    }
                }
            }
        }

        void checkSelect(Select s) {
            if (s == null) {
                return;
            }
            checkItems(s);
            enter(s);
            for (int i = 0; i < s.groupCount; i++) {
                walk(s.group[i], s);
            }
            inGroupedPart[s.level] = true;
            if (s.grouped && s.star != NONE) {
                fault(5, s.star);
            }
            for (int i = 0; i < s.listCount; i++) {
                walk(s.list[i], s);
            }
            checkTruth(s.having, s);
            for (int i = 0; i < s.orderCount; i++) {
                walk(s.order[i], s);
            }
            inGroupedPart[s.level] = false;
            checkTruth(s.where, s);
            for (int i = 1; i < s.itemCount; i++) {
                seenItems[s.level] = i + 1;
                checkTruth(s.items[i].on, s);
            }
            seenItems[s.level] = s.itemCount;
        }

        void checkTruth(int root, Select s) {
            if (root != NONE) {
                walk(root, s);
                need(root, TRUTH);
            }
        }

        void need(int root, int type) {
            if (types[root] != ANY && types[root] != type) {
                fault(4, code.start[root]);
            }
        }

        void walk(int root, Select s) {
            int i = code.first[root];
            while (i <= root) {
                marksBefore[i] = marks;
                int what = code.op[i];
                int target = code.arg[i];
                if (what != Code.SKIP) {
                    types[i] = typeOf(i, what, s);
                    if (marks > marksBefore[code.first[i]]) {
                        types[i] = ANY;
                    }
                } else if (Code.isAgg(code.op[target])) {
                    checkAggPlace(target, s);
                    aggsAround[s.level]++;
                } else {
                    i = Math.max(i, target - 1);
                }
                i++;
            }
        }

        int typeOf(int i, int what, Select s) {
            switch (what) {
                case Code.LITERAL:
                    return (int) code.cells[i * CELL];
                case Code.REF:
                    return typeOfRef(i, s);
                case Code.COUNT_ALL:
                    checkAggPlace(i, s);
                    return NUMBER;
                case Code.COUNTS:
                case Code.SUMS:
                case Code.LEAST:
                case Code.GREATEST:
                    aggsAround[s.level]--;
                    return typeOfAgg(i, what);
                case Code.HAS_ROWS:
                    checkSelect(code.selectOf(i));
                    return TRUTH;
                case Code.IN_SELECT:
                    checkInSelect(i);
                    return TRUTH;
                case Code.IN_LIST:
                    checkInList(i);
                    return TRUTH;
                case Code.IS_NULL:
                    return TRUTH;
                case Code.NEGATE:
                    need(i - 1, NUMBER);
                    return NUMBER;
                case Code.INVERT:
                    need(i - 1, TRUTH);
                    return TRUTH;
                default:
                    return typeOfBinary(i, what);
            }
        }

        int typeOfBinary(int i, int what) {
            int left = code.leftOf(i);
            int right = i - 1;
            if (left < 0) {
                return ANY;
            }
            if (what >= Code.EQUAL && what <= Code.AT_LEAST) {
                needAlike(left, right);
                return TRUTH;
            }
            int type = what <= Code.REST ? NUMBER : TRUTH;
            need(left, type);
            need(right, type);
            return type;
        }

        void needAlike(int before, int behind) {
            if (types[before] != ANY) {
                need(behind, types[before]);
            }
        }

        int typeOfAgg(int i, int what) {
            if (what == Code.COUNTS) {
                return NUMBER;
            }
            if (what == Code.SUMS) {
                need(i - 1, NUMBER);
                return NUMBER;
            }
            if (types[i - 1] == TRUTH) {
                fault(4, code.start[i - 1]);
            }
            return types[i - 1];
        }

        void checkAggPlace(int node, Select s) {
            if (s.at == NONE || !inGroupedPart[s.level] || aggsAround[s.level] > 0) {
                fault(5, code.at[node]);
            }
        }

        void checkInList(int i) {
            int before = i - 1;
            for (int n = 0; n < code.arg[i]; n++) {
                before = code.first[before] - 1;
            }
            int behind = i - 1;
            for (int n = 0; n < code.arg[i]; n++) {
                needAlike(before, behind);
                behind = code.first[behind] - 1;
            }
        }

        void checkInSelect(int i) {
            Select s = code.selectOf(i);
            int before = leftOfSelect(i);
            if (s == null) {
                return;
            }
            checkSelect(s);
            Table first = s.items[0].source;
            int columns = s.star == NONE ? s.listCount : columnsOf(s);
            if (columns == NONE || first == null && s.star != NONE) {
                return;
            }
            int type = s.star == NONE ? types[s.list[0]] : first.types[0];
            if (columns > 1 || before >= 0 && type != ANY && types[before] != ANY && types[before] != type) {
                fault(4, s.at);
            }
        }

        /** The root of what stands before 'in': the EXPR that ends where the SKIP of the SELECT stands. */
        int leftOfSelect(int i) {
            int skip = i - 1;
            while (skip > 0 && (code.op[skip] != Code.SKIP || code.arg[skip] != i)) {
                skip--;
            }
            return skip - 1;
        }

        int columnsOf(Select s) {
            int columns = 0;
            for (int i = 0; i < s.itemCount; i++) {
                Table t = s.items[i].source;
                if (t == null) {
                    return NONE;
                }
                columns += t.columns;
            }
            return columns;
        }

        int typeOfRef(int i, Select s) {
            if (code.statement == INSERT && s.at == NONE) {
                fault(5, code.at[i]);
                return ANY;
            }
            int found = NONE;
            Select scope = s;
            while (scope != null && found == NONE) {
                found = lookUp(scope, code.cells[i * CELL], code.cells[i * CELL + 1]);
                scope = found == NONE ? scope.around : scope;
            }
            if (scope == null || found < 0) {
                fault(3, code.at[i]);
                return ANY;
            }
            code.arg[i] = found;
            checkGrouped(i, scope);
            Table t = scope.items[(found >> COLUMN_BITS) - scope.level * MOST_ITEMS].source;
            return t == null ? ANY : t.types[found & (1 << COLUMN_BITS) - 1];
        }

        /** The column that a REF means in a SELECT; NONE if it is to be looked for further out, less if it is a FAULT. */
        int lookUp(Select s, long first, long second) {
            int found = NONE;
            boolean called = false;
            for (int i = 0; i < seenItems[s.level] && i < MOST_ITEMS; i++) {
                Item item = s.items[i];
                if (second != 0 && item.called != first) {
                    continue;
                }
                called = second != 0;
                int column = item.source == null ? NONE : item.source.columnOf(second != 0 ? second : first);
                if (column != NONE) {
                    found = found == NONE ? Code.columnCode(s.level, i, column) : NONE - 1;
                }
            }
            return called && found == NONE ? NONE - 1 : found;
        }

        void checkGrouped(int i, Select owner) {
            if (!owner.grouped || !inGroupedPart[owner.level] || aggsAround[owner.level] > 0) {
                return;
            }
            for (int g = 0; g < owner.groupCount; g++) {
                if (code.arg[owner.group[g]] == code.arg[i]) {
                    return;
                }
            }
            fault(5, code.at[i]);
        }
    }

    /** Works EXPRS and SELECTS out, by the tables as they are. */
    private static final class Evaluator {
        static final int WIDTH = MOST_KEYS_OF_ORDER + MOST_COLUMNS;

        final long[] stack = new long[Code.SIZE * CELL];
        final long[] aggs = new long[Code.SIZE * CELL];
        // For each level and ITEM the row that is looked at, and where it stands in its table.
        final long[][] rows = new long[(MOST_LEVEL + 1) * MOST_ITEMS][];
        final int[] rowNumbers = new int[(MOST_LEVEL + 1) * MOST_ITEMS];
        final int[] trueRows = new int[MOST_LEVEL + 1];
        // For each level: the cell before 'in', whether one was alike, or NULL, and how many rows there were.
        final int[] before = new int[MOST_LEVEL + 1];
        final boolean[] foundAlike = new boolean[MOST_LEVEL + 1];
        final boolean[] foundNull = new boolean[MOST_LEVEL + 1];
        final int[] made = new int[MOST_LEVEL + 1];
        // For each level: rows that are kept, in groups: the next one of a row's group, a group's first and last one.
        final int[][] kept = new int[MOST_LEVEL + 1][MOST_TRUE];
        final int[][] nextKept = new int[MOST_LEVEL + 1][MOST_TRUE];
        final int[][] firstKept = new int[MOST_LEVEL + 1][MOST_TRUE];
        final int[][] lastKept = new int[MOST_LEVEL + 1][MOST_TRUE];
        // The answer's rows before they are in order: each with its cells of 'order', then those of the list.
        final long[] out = new long[MOST_TRUE * WIDTH * CELL];
        final int[] outRows = new int[MOST_TRUE];
        final int[] sorted = new int[MOST_TRUE];
        final int[] merged = new int[MOST_TRUE];
        Code code;
        int top;
        int looks;

        void use(Code c) {
            code = c;
            top = 0;
            looks = 0;
        }

        void stand(long[] row) {
            rows[0] = row;
        }

        void push(int kind, long value) {
            if (top < Code.SIZE) {
                stack[top * CELL] = kind;
                stack[top * CELL + 1] = value;
                stack[top * CELL + 2] = 0;
                top++;
            }
        }

        void pushCell(long[] from, int cell) {
            if (top < Code.SIZE) {
                System.arraycopy(from, cell * CELL, stack, top * CELL, CELL);
                top++;
            }
        }

        boolean isTrue(int root) {
            eval(root);
            top--;
            return stack[top * CELL] == TRUTH && stack[top * CELL + 1] == 1;
        }

        void valueInto(int root, long[] row, int column) {
            eval(root);
            top--;
            System.arraycopy(stack, top * CELL, row, column * CELL, CELL);
        }

        void eval(int root) {
            for (int i = code.first[root]; i <= root; i++) {
                i = code.op[i] == Code.SKIP ? Math.max(i, code.arg[i]) : i;
                step(i, code.op[i]);
            }
        }

        void step(int i, int what) {
            switch (what) {
                case Code.LITERAL:
                    pushCell(code.cells, i);
                    break;
                case Code.REF:
                    pushRef(code.arg[i]);
                    break;
                case Code.COUNT_ALL:
                case Code.COUNTS:
                case Code.SUMS:
                case Code.LEAST:
                case Code.GREATEST:
                    pushCell(aggs, i);
                    break;
                case Code.HAS_ROWS:
                    evalWithin(code.selectOf(i), NONE);
                    break;
                case Code.IN_SELECT:
                    evalWithin(code.selectOf(i), top - 1);
                    break;
                case Code.IN_LIST:
                    evalInList(code.arg[i]);
                    break;
                case Code.IS_NULL:
                case Code.NEGATE:
                case Code.INVERT:
                    operateOnOne(what, (top - 1) * CELL);
                    break;
                case Code.BOTH:
                case Code.EITHER:
                    connect(what == Code.BOTH ? 0 : 1, (top - 2) * CELL, (top - 1) * CELL);
                    break;
                default:
                    operateOnTwo(what, (top - 2) * CELL, (top - 1) * CELL);
            }
        }

        void pushRef(int column) {
            long[] row = rows[column >> COLUMN_BITS];
            if (row == null) {
                push(NULL, 0);
            } else {
                pushCell(row, column & (1 << COLUMN_BITS) - 1);
            }
        }

        /** 'exists', or 'in' of a SELECT: x is the cell on the stack before 'in', or NONE. */
        void evalWithin(Select s, int x) {
            if (s == null) {
                push(NULL, 0);
                return;
            }
            work(s, x);
            boolean any = made[s.level] > 0;
            if (x == NONE) {
                push(TRUTH, any ? 1 : 0);
                return;
            }
            boolean alike = foundAlike[s.level];
            boolean unknown = any && !alike && (foundNull[s.level] || stack[x * CELL] == NULL);
            top--;
            push(unknown ? NULL : TRUTH, alike ? 1 : 0);
        }

        void evalInList(int n) {
            int x = top - n - 1;
            boolean alike = false;
            boolean unknown = stack[x * CELL] == NULL;
            for (int i = x + 1; i < top; i++) {
                unknown = unknown || stack[i * CELL] == NULL;
                alike = alike || stack[i * CELL] != NULL && Table.compare(stack, x, stack, i) == 0;
            }
            top = x;
            push(unknown && !alike ? NULL : TRUTH, alike ? 1 : 0);
        }

        void operateOnOne(int what, int a) {
            if (what == Code.IS_NULL) {
                top--;
                push(TRUTH, stack[a] == NULL ? 1 : 0);
            } else if (what == Code.NEGATE) {
                stack[a + 1] = -stack[a + 1];
            } else {
                stack[a + 1] = stack[a] == NULL ? 0 : 1 - stack[a + 1];
            }
        }

        void operateOnTwo(int what, int a, int b) {
            boolean divides = what == Code.OVER || what == Code.REST;
            boolean unknown = stack[a] == NULL || stack[b] == NULL || divides && stack[b + 1] == 0;
            int order = Table.compare(stack, top - 2, stack, top - 1);
            top -= 2;
            if (unknown) {
                push(NULL, 0);
            } else if (what <= Code.REST) {
                push(NUMBER, calculate(what, stack[a + 1], stack[b + 1]));
            } else {
                push(TRUTH, holds(what, order) ? 1 : 0);
            }
        }

        /** 'and' (decided by a 0, false) and 'or' (by a 1, true). */
        void connect(int decides, int a, int b) {
            boolean decided = stack[a] != NULL && stack[a + 1] == decides || stack[b] != NULL && stack[b + 1] == decides;
            boolean unknown = stack[a] == NULL || stack[b] == NULL;
            top -= 2;
            if (decided) {
                push(TRUTH, decides);
            } else {
                push(unknown ? NULL : TRUTH, unknown ? 0 : 1 - decides);
            }
        }

        static long calculate(int what, long a, long b) {
            switch (what) {
                case Code.PLUS:
                    return a + b;
                case Code.MINUS:
                    return a - b;
                case Code.TIMES:
                    return a * b;
                case Code.OVER:
                    return b == 0 ? 0 : a / b;
                default:
                    return b == 0 ? 0 : a % b;
            }
        }

        static boolean holds(int what, int order) {
            switch (what) {
                case Code.EQUAL:
                    return order == 0;
                case Code.DIFFERENT:
                    return order != 0;
                case Code.LESS:
                    return order < 0;
                case Code.AT_MOST:
                    return order <= 0;
                case Code.GREATER:
                    return order > 0;
                default:
                    return order >= 0;
            }
        }

        void tooMuch() {
            throw new IllegalStateException("more rows than a statement may have");
        }

        /** Works a SELECT out; x is the cell on the stack that its rows are compared with, or NONE. */
        void work(Select s, int x) {
            int level = s.level;
            int looksHere = 1;
            for (int i = 0; i < s.itemCount; i++) {
                looksHere *= s.items[i].source == null ? 0 : s.items[i].source.size;
            }
            looks += looksHere;
            if (looks > MOST_LOOKS) {
                tooMuch();
            }
            before[level] = x;
            foundAlike[level] = false;
            foundNull[level] = false;
            made[level] = 0;
            trueRows[level] = 0;
            goThrough(s, 0);
            if (s.grouped) {
                workGroups(s);
            }
        }

        /** Each row so far goes on with each row of an ITEM for which its 'on' is true. */
        void goThrough(Select s, int i) {
            if (i >= s.itemCount) {
                takeRow(s);
                return;
            }
            Item item = s.items[i];
            Table t = item.source;
            int slot = s.level * MOST_ITEMS + i;
            boolean any = false;
            for (int r = 0; t != null && r < t.size; r++) {
                rows[slot] = t.rows[r];
                rowNumbers[slot] = r;
                if (item.on == NONE || isTrue(item.on)) {
                    any = true;
                    goThrough(s, i + 1);
                }
            }
            if (!any && item.left) {
                rows[slot] = null;
                rowNumbers[slot] = NO_ROW;
                goThrough(s, i + 1);
            }
        }

        void takeRow(Select s) {
            if (s.where != NONE && !isTrue(s.where)) {
                return;
            }
            int n = trueRows[s.level];
            if (n >= MOST_TRUE) {
                tooMuch();
            }
            trueRows[s.level] = n + 1;
            if (s.grouped) {
                kept[s.level][n] = packRow(s);
            } else {
                makeRow(s);
            }
        }

        int packRow(Select s) {
            int packed = 0;
            for (int i = 0; i < s.itemCount; i++) {
                packed |= rowNumbers[s.level * MOST_ITEMS + i] << ROW_BITS * i;
            }
            return packed;
        }

        long[] rowOf(Select s, int packed, int i) {
            int r = packed >> ROW_BITS * i & NO_ROW;
            Table t = s.items[i].source;
            return t == null || r >= t.size ? null : t.rows[r];
        }

        void standOn(Select s, int packed) {
            for (int i = 0; i < s.itemCount; i++) {
                rows[s.level * MOST_ITEMS + i] = rowOf(s, packed, i);
            }
        }

        void workGroups(Select s) {
            int groups = s.groupCount == 0 ? oneGroup(s.level) : makeGroups(s);
            for (int g = 0; g < groups; g++) {
                int first = firstKept[s.level][g];
                int agg = s.lastAgg;
                for (int n = 0; n < code.count && agg != NONE; n++) {
                    workAgg(s, agg, first);
                    agg = code.arg[agg];
                }
                for (int i = 0; first == NONE && i < s.itemCount; i++) {
                    rows[s.level * MOST_ITEMS + i] = null;
                }
                if (first != NONE) {
                    standOn(s, kept[s.level][first]);
                }
                if (s.having == NONE || isTrue(s.having)) {
                    makeRow(s);
                }
            }
        }

        int oneGroup(int level) {
            int n = trueRows[level];
            for (int r = 0; r < n; r++) {
                nextKept[level][r] = r + 1 < n ? r + 1 : NONE;
            }
            firstKept[level][0] = n == 0 ? NONE : 0;
            return 1;
        }

        int makeGroups(Select s) {
            int level = s.level;
            int groups = 0;
            for (int r = 0; r < trueRows[level]; r++) {
                int g = 0;
                while (g < groups && !sameGroup(s, kept[level][firstKept[level][g]], kept[level][r])) {
                    g++;
                }
                nextKept[level][r] = NONE;
                if (g == groups) {
                    firstKept[level][g] = r;
                    groups++;
                } else {
                    nextKept[level][lastKept[level][g]] = r;
                }
                lastKept[level][g] = r;
            }
            return groups;
        }

        boolean sameGroup(Select s, int one, int other) {
            for (int g = 0; g < s.groupCount; g++) {
                int column = code.arg[s.group[g]];
                int item = (column >> COLUMN_BITS) - s.level * MOST_ITEMS;
                Table t = item < 0 ? null : s.items[item].source;
                // A column from further out is alike in all rows.
                if (t == null) {
                    continue;
                }
                column &= (1 << COLUMN_BITS) - 1;
                int a = one >> ROW_BITS * item & NO_ROW;
                int b = other >> ROW_BITS * item & NO_ROW;
                boolean isNull = a >= t.size || t.rows[a][column * CELL] == NULL;
                boolean otherIsNull = b >= t.size || t.rows[b][column * CELL] == NULL;
                if (isNull != otherIsNull || !isNull && Table.compare(t.rows[a], column, t.rows[b], column) != 0) {
                    return false;
                }
            }
            return true;
        }

        void workAgg(Select s, int agg, int first) {
            int what = code.op[agg];
            int at = agg * CELL;
            boolean counts = what == Code.COUNT_ALL || what == Code.COUNTS;
            aggs[at] = counts ? NUMBER : NULL;
            aggs[at + 1] = 0;
            aggs[at + 2] = 0;
            int r = first;
            for (int n = 0; n < trueRows[s.level] && r != NONE; n++) {
                if (what == Code.COUNT_ALL) {
                    aggs[at + 1]++;
                } else {
                    standOn(s, kept[s.level][r]);
                    eval(agg - 1);
                    top--;
                    addTo(agg, what);
                }
                r = nextKept[s.level][r];
            }
        }

        /** Takes the value behind the stack's top into an AGG. */
        void addTo(int agg, int what) {
            int at = agg * CELL;
            if (stack[top * CELL] == NULL) {
                return;
            }
            if (what == Code.COUNTS) {
                aggs[at + 1]++;
            } else if (what == Code.SUMS) {
                aggs[at] = NUMBER;
                aggs[at + 1] += stack[top * CELL + 1];
            } else {
                int order = Table.compare(stack, top, aggs, agg);
                if (aggs[at] == NULL || (what == Code.LEAST ? order < 0 : order > 0)) {
                    System.arraycopy(stack, top * CELL, aggs, at, CELL);
                }
            }
        }

        /** Works 'order' and the list out for the row or group that is looked at; only the answer's cells are kept. */
        void makeRow(Select s) {
            int level = s.level;
            int n = made[level];
            boolean isAnswer = s.around == null;
            for (int i = 0; i < s.orderCount; i++) {
                valueInto(s.order[i], isAnswer ? out : stack, isAnswer ? n * WIDTH + i : top);
            }
            for (int i = 0; i < s.listCount; i++) {
                int cell = n * WIDTH + MOST_KEYS_OF_ORDER + i;
                valueInto(s.list[i], isAnswer ? out : stack, isAnswer ? cell : top);
            }
            made[level] = n + 1;
            if (isAnswer) {
                outRows[n] = packRow(s);
            } else if (before[level] != NONE) {
                compareIn(s);
            }
        }

        /** Compares the row just made with what stands before 'in'; with * it is the only column of a table. */
        void compareIn(Select s) {
            long[] row = s.star == NONE ? stack : rows[s.level * MOST_ITEMS];
            int cell = s.star == NONE ? top : 0;
            if (row == null || row[cell * CELL] == NULL) {
                foundNull[s.level] = true;
            } else if (Table.compare(stack, before[s.level], row, cell) == 0) {
                foundAlike[s.level] = true;
            }
        }

        /** Puts the answer's rows in order and into a session. */
        void tell(Select s, Session into) {
            sort(s);
            int columns = s.listCount;
            for (int i = 0; s.star != NONE && i < s.itemCount; i++) {
                columns += s.items[i].source == null ? 0 : s.items[i].source.columns;
            }
            int n = 0;
            for (int i = 0; i < made[0]; i++) {
                int r = sorted[i];
                int from = r * WIDTH + MOST_KEYS_OF_ORDER;
                // With * no two rows are alike: each has other KEYS.
                if (s.distinct && s.star == NONE && isTold(from, into.cells, n, columns)) {
                    continue;
                }
                if (n >= MOST_ANSWERS) {
                    tooMuch();
                }
                if (s.star == NONE) {
                    System.arraycopy(out, from * CELL, into.cells, n * columns * CELL, columns * CELL);
                } else {
                    tellAll(s, outRows[r], into.cells, n * columns);
                }
                n++;
            }
            into.rows = n;
            into.columns = columns;
        }

        boolean isTold(int from, long[] cells, int n, int columns) {
            for (int r = 0; r < n; r++) {
                int i = 0;
                while (i < columns && Table.compare(out, from + i, cells, r * columns + i) == 0) {
                    i++;
                }
                if (i == columns) {
                    return true;
                }
            }
            return false;
        }

        void tellAll(Select s, int packed, long[] cells, int to) {
            int at = to * CELL;
            for (int i = 0; i < s.itemCount; i++) {
                Table t = s.items[i].source;
                int size = t == null ? 0 : t.columns * CELL;
                long[] row = rowOf(s, packed, i);
                if (row == null) {
                    Arrays.fill(cells, at, at + size, NULL);
                } else {
                    System.arraycopy(row, 0, cells, at, size);
                }
                at += size;
            }
        }

        /** Merges ever longer runs, so that alike rows stay as they were. */
        void sort(Select s) {
            int n = made[0];
            for (int i = 0; i < n; i++) {
                sorted[i] = i;
            }
            for (int width = 1; width < n && s.orderCount > 0; width *= 2) {
                for (int from = 0; from < n; from += 2 * width) {
                    merge(s, from, Math.min(from + width, n), Math.min(from + 2 * width, n));
                }
                System.arraycopy(merged, 0, sorted, 0, n);
            }
        }

        void merge(Select s, int from, int middle, int to) {
            int left = from;
            int right = middle;
            for (int i = from; i < to; i++) {
                boolean takesLeft = right >= to || left < middle && order(s, sorted[left], sorted[right]) <= 0;
                merged[i] = takesLeft ? sorted[left] : sorted[right];
                left = takesLeft ? left + 1 : left;
                right = takesLeft ? right : right + 1;
            }
        }

        int order(Select s, int one, int other) {
            for (int i = 0; i < s.orderCount; i++) {
                int order = Table.compare(out, one * WIDTH + i, out, other * WIDTH + i);
                if (order != 0) {
                    return s.desc[i] ? -order : order;
                }
            }
            return 0;
        }
    }

    /** Finds the order of a SELECT's ITEMS with the least COST. */
    private static final class Planner {
        final int[] parts = new int[Code.SIZE];
        // The ITEM of a PART's 'on' (NONE for 'where'), and the bits of the ITEMS to which it has REFS.
        final int[] partItems = new int[Code.SIZE];
        final int[] partNeeds = new int[Code.SIZE];
        final boolean[] used = new boolean[Code.SIZE];
        final int[] order = new int[MOST_ITEMS];
        final long[] tried = new long[MOST_ITEMS * 5];
        Code code;
        Select select;
        boolean inOrder;
        int count;
        long rows;
        long cost;

        void choose(Session s) {
            code = s.code;
            select = s.code.top;
            s.steps = 0;
            if (select == null) {
                return;
            }
            gather();
            long least = GREATEST_NUMBER;
            for (int n = 0; n < MOST_ITEMS * MOST_ITEMS * MOST_ITEMS; n++) {
                if (!isOrder(n)) {
                    continue;
                }
                rows = 1;
                cost = 0;
                for (int i = 0; i < count; i++) {
                    used[i] = false;
                }
                int standing = 0;
                for (int i = 0; i < select.itemCount; i++) {
                    standing |= 1 << order[i];
                    addItem(i, order[i], standing);
                }
                if (cost < least) {
                    least = cost;
                    System.arraycopy(tried, 0, s.planned, 0, tried.length);
                    s.steps = select.itemCount;
                }
            }
        }

        void gather() {
            count = 0;
            inOrder = false;
            for (int i = 1; i < select.itemCount; i++) {
                inOrder = inOrder || select.items[i].left;
                gatherFrom(select.items[i].on, i);
            }
            gatherFrom(select.where, NONE);
        }

        void gatherFrom(int root, int item) {
            int to = code.split(root, parts, count);
            while (count < to) {
                partItems[count] = item;
                partNeeds[count] = itemsIn(parts[count]);
                count++;
            }
        }

        /** The outermost SELECT's ITEMS are those of level 0, with the least numbers. */
        int itemsIn(int root) {
            int items = 0;
            for (int i = code.first[root]; i <= root; i++) {
                int item = code.arg[i] >> COLUMN_BITS;
                if (code.op[i] == Code.REF && item < MOST_ITEMS) {
                    items |= 1 << item;
                }
            }
            return items;
        }

        /** Whether a number's three digits tell an order; ITEMS that the SELECT has not stand where they are. */
        boolean isOrder(int n) {
            order[0] = n / 9;
            order[1] = n / 3 % 3;
            order[2] = n % 3;
            for (int i = 0; i < MOST_ITEMS; i++) {
                if ((inOrder || i >= select.itemCount) && order[i] != i) {
                    return false;
                }
            }
            return order[0] != order[1] && order[1] != order[2] && order[0] != order[2];
        }

        boolean isOpen(int part, int item, int standing) {
            if (used[part]) {
                return false;
            }
            return inOrder ? partItems[part] == item : (partNeeds[part] & ~standing) == 0;
        }

        void addItem(int step, int item, int standing) {
            Table t = select.items[item].source;
            if (t == null) {
                return;
            }
            long rowsBefore = rows;
            int part = partFor(item, 0, standing);
            int index = NONE;
            int access = part == NONE ? 0 : 1;
            for (int i = 0; part == NONE && i < t.indexes; i++) {
                part = partFor(item, t.indexColumns[i], standing);
                index = part == NONE ? NONE : t.indexNumbers[i];
                access = part == NONE ? 0 : 2;
            }
            long fan = access == 1 ? 1 : access == 2 ? (t.size + 9) / 10 : t.size;
            cost += rows * (access == 2 ? fan + 1 : fan);
            rows *= fan;
            useParts(part, item, standing);
            if (select.items[item].left && rows < rowsBefore) {
                rows = rowsBefore;
            }
            tried[step * 5] = item;
            tried[step * 5 + 1] = access;
            tried[step * 5 + 2] = index;
            tried[step * 5 + 3] = rows;
            tried[step * 5 + 4] = cost;
        }

        int partFor(int item, int column, int standing) {
            for (int i = 0; i < count; i++) {
                if (isOpen(i, item, standing) && code.equalTo(parts[i], Code.columnCode(0, item, column)) != NONE) {
                    return i;
                }
            }
            return NONE;
        }

        void useParts(int byAccess, int item, int standing) {
            for (int i = 0; i < count; i++) {
                if (!isOpen(i, item, standing)) {
                    continue;
                }
                used[i] = true;
                if (i != byAccess) {
                    rows = code.op[parts[i]] == Code.EQUAL ? (rows + 9) / 10 : (rows + 2) / 3;
                }
            }
        }
    }

    /** THE LOG, with what its records changed, and RECOVERY by it; the tables are always as by all of its records. */
    private static final class Log {
        final Table[] tables;
        final int[] kinds = new int[MOST_RECORDS + 1];
        final int[] transactions = new int[MOST_RECORDS + 1];
        final int[] tableNumbers = new int[MOST_RECORDS + 1];
        final int[] undoes = new int[MOST_RECORDS + 1];
        // The record of kinds 2 to 4 of the same transaction before one of these kinds, 0 for none.
        final int[] previous = new int[MOST_RECORDS + 1];
        final long[][] before = new long[MOST_RECORDS + 1][];
        final long[][] after = new long[MOST_RECORDS + 1][];
        final int[] loserNumbers = new int[SESSIONS];
        final int[] loserRecords = new int[SESSIONS];
        int losers;
        int last;
        int durable;
        int first = 1;
        int redone;
        int redoEnd;

        Log(Table[] all) {
            tables = all;
        }

        int add(int kind, int transaction, int table) {
            if (last < MOST_RECORDS) {
                last++;
                kinds[last] = kind;
                transactions[last] = transaction;
                tableNumbers[last] = table;
                undoes[last] = NONE;
                previous[last] = 0;
                before[last] = null;
                after[last] = null;
            }
            return last;
        }

        int force() {
            int forced = last - durable;
            durable = last;
            return forced;
        }

        /** Changes a row, from what it was (null of an INSERT) to what it will be (null of a DELETE). */
        void change(Session s, int table, long[] from, long[] to) {
            if (s.begin == 0) {
                s.begin = add(BEGIN_RECORD, s.transaction, NONE);
            }
            int kind = from == null ? INSERT_RECORD : to == null ? DELETE_RECORD : UPDATE_RECORD;
            int r = add(kind, s.transaction, table);
            previous[r] = s.lastRecord;
            before[r] = from;
            after[r] = to;
            s.lastRecord = r;
            s.openRecords++;
            tables[table].turn(from, to);
        }

        void undo(int r) {
            int number = add(UNDO_RECORD, transactions[r], tableNumbers[r]);
            undoes[number] = r;
            tables[tableNumbers[r]].turn(after[r], before[r]);
        }

        void commit(Session s) {
            if (s.begin > 0) {
                add(COMMIT_RECORD, s.transaction, NONE);
            }
        }

        void rollBack(Session s) {
            int r = s.lastRecord;
            for (int n = 0; n < s.openRecords && r > 0; n++) {
                undo(r);
                r = previous[r];
            }
            if (s.begin > 0) {
                add(END_RECORD, s.transaction, NONE);
            }
        }

        int deletedBy(Session s, int table) {
            int deleted = 0;
            int r = s.lastRecord;
            for (int n = 0; n < s.openRecords && r > 0; n++) {
                deleted += kinds[r] == DELETE_RECORD && tableNumbers[r] == table ? 1 : 0;
                r = previous[r];
            }
            return deleted;
        }

        /** Keeps k records that are not durable and loses those behind: how many. */
        int lose(int k) {
            int keep = durable + Math.min(k, last - durable);
            int lost = last - keep;
            for (int r = last; r > keep; r--) {
                if (kinds[r] == UNDO_RECORD) {
                    int u = undoes[r];
                    tables[tableNumbers[u]].turn(before[u], after[u]);
                } else if (kinds[r] >= INSERT_RECORD && kinds[r] <= UPDATE_RECORD) {
                    tables[tableNumbers[r]].turn(after[r], before[r]);
                }
            }
            last = keep;
            durable = keep;
            redone = first - 1;
            redoEnd = keep;
            return lost;
        }

        int redo(int n) {
            int steps = Math.min(n, redoEnd - redone);
            redone += steps;
            return steps;
        }

        boolean isRedone() {
            return redone >= redoEnd;
        }

        int undoLosers(int n) {
            findLosers();
            int steps = 0;
            while (steps < n && losers > 0) {
                undoOne();
                steps++;
            }
            return steps;
        }

        /** No more than one transaction of each session can be without an end anywhere in the log. */
        void findLosers() {
            losers = 0;
            for (int r = first; r <= last; r++) {
                int i = loserOf(transactions[r]);
                if (kinds[r] == BEGIN_RECORD && losers < SESSIONS) {
                    loserNumbers[losers] = transactions[r];
                    loserRecords[losers] = 0;
                    losers++;
                } else if (i == NONE) {
                    continue;
                } else if (kinds[r] == COMMIT_RECORD || kinds[r] == END_RECORD) {
                    dropLoser(i);
                } else if (kinds[r] == UNDO_RECORD) {
                    loserRecords[i] = previous[undoes[r]];
                } else {
                    loserRecords[i] = r;
                }
            }
        }

        int loserOf(int transaction) {
            for (int i = 0; i < losers; i++) {
                if (loserNumbers[i] == transaction) {
                    return i;
                }
            }
            return NONE;
        }

        void dropLoser(int i) {
            losers--;
            loserNumbers[i] = loserNumbers[losers];
            loserRecords[i] = loserRecords[losers];
        }

        void undoOne() {
            int done = NONE;
            int latest = 0;
            for (int i = 0; i < losers; i++) {
                if (loserRecords[i] == 0 && (done == NONE || loserNumbers[i] < loserNumbers[done])) {
                    done = i;
                }
                latest = loserRecords[i] > loserRecords[latest] ? i : latest;
            }
            if (done != NONE) {
                add(END_RECORD, loserNumbers[done], NONE);
                dropLoser(done);
            } else {
                undo(loserRecords[latest]);
                loserRecords[latest] = previous[loserRecords[latest]];
            }
        }
    }

    /** A table (key is NULL then) or a KEY that can be locked: what each session has and wants there, and its queue. */
    private static final class Place {
        final long[] key = new long[CELL];
        final int[] have = new int[SESSIONS];
        final int[] want = new int[SESSIONS];
        final int[] queue = new int[SESSIONS];
        int table;
        int waiting;
        boolean touched;

        /** Before (less than 0), at (0) or behind a table or KEY, in the order in which locks are asked. */
        int compareWith(int otherTable, long[] cells, int cell) {
            return table != otherTable ? Integer.compare(table, otherTable) : Table.compare(key, 0, cells, cell);
        }

        boolean fits(int session, int mode) {
            for (int i = 0; i < SESSIONS; i++) {
                if (i != session && !goTogether(mode, have[i])) {
                    return false;
                }
            }
            return true;
        }

        static boolean goTogether(int one, int other) {
            return other == 0 || (TOGETHER[one] >> other & 1) == 1;
        }

        void enqueue(int session, int mode) {
            int at = 0;
            while (at < waiting && (have[session] == 0 || have[queue[at]] != 0)) {
                at++;
            }
            for (int i = waiting; i > at && i < SESSIONS; i--) {
                queue[i] = queue[i - 1];
            }
            if (at < SESSIONS && waiting < SESSIONS) {
                queue[at] = session;
                waiting++;
            }
            want[session] = mode;
        }

        void leaveQueue(int session) {
            int to = 0;
            for (int i = 0; i < waiting; i++) {
                if (queue[i] != session) {
                    queue[to] = queue[i];
                    to++;
                }
            }
            waiting = to;
            want[session] = 0;
        }

        /** The bits of the sessions for which a session waits here. */
        int waitsFor(int session) {
            int bits = 0;
            for (int i = 0; i < SESSIONS; i++) {
                if (i != session && !goTogether(want[session], have[i])) {
                    bits |= 1 << i;
                }
            }
            for (int i = 0; i < waiting && queue[i] != session; i++) {
                if (!goTogether(want[session], want[queue[i]])) {
                    bits |= 1 << queue[i];
                }
            }
            return bits;
        }

        boolean isFree() {
            return waiting == 0 && have[0] == 0 && have[1] == 0 && have[2] == 0 && have[3] == 0;
        }
    }

    /** Which locks sessions have, want and will ask. */
    private static final class Locks {
        static final int MOST_ASKS = 64;

        // Tables and KEYS in the order in which they are asked; those that nobody has are used again.
        final ArrayList<Place> places = new ArrayList<>();
        final ArrayList<Place> spare = new ArrayList<>();
        final Place[] waitsAt = new Place[SESSIONS];
        final int[] ready = new int[SESSIONS];
        int readyCount;
        // The locks that each session's statement asks, and the next one of these.
        final int[][] askTables = new int[SESSIONS][MOST_ASKS];
        final int[][] askModes = new int[SESSIONS][MOST_ASKS];
        final long[][] askKeys = new long[SESSIONS][MOST_ASKS * CELL];
        final int[] askCounts = new int[SESSIONS];
        final int[] askNext = new int[SESSIONS];
        final int[] parts = new int[Code.SIZE];

        static boolean covers(int mode, int other) {
            return (COVERS[mode] >> other & 1) == 1;
        }

        /** The lesser MODE that covers both. */
        static int both(int one, int other) {
            int mode = Math.max(one, other);
            while (mode < X_MODE && !(covers(mode, other) && (one == 0 || covers(mode, one)))) {
                mode++;
            }
            return mode;
        }

        int modeOf(int session, int table) {
            int at = before(table, WHOLE_TABLE, 0);
            return isAt(at, table, WHOLE_TABLE, 0) ? places.get(at).have[session] : 0;
        }

        int keysOf(int session) {
            int n = 0;
            for (int i = 0; i < places.size(); i++) {
                Place p = places.get(i);
                n += p.key[0] != NULL && p.have[session] != 0 ? 1 : 0;
            }
            return n;
        }

        int waiters() {
            int n = 0;
            for (int i = 0; i < SESSIONS; i++) {
                n += waitsAt[i] == null ? 0 : 1;
            }
            return n;
        }

        int before(int table, long[] cells, int cell) {
            int at = 0;
            while (at < places.size() && places.get(at).compareWith(table, cells, cell) < 0) {
                at++;
            }
            return at;
        }

        boolean isAt(int at, int table, long[] cells, int cell) {
            return at < places.size() && places.get(at).compareWith(table, cells, cell) == 0;
        }

        Place placeOf(int table, long[] cells, int cell) {
            int at = before(table, cells, cell);
            if (isAt(at, table, cells, cell)) {
                return places.get(at);
            }
            Place p = spare.isEmpty() ? new Place() : spare.remove(spare.size() - 1);
            p.table = table;
            System.arraycopy(cells, cell * CELL, p.key, 0, CELL);
            places.add(at, p);
            return p;
        }

        /** Finds the locks that a statement asks, by its text; then its session can go on. */
        void prepare(int session, Code c, Evaluator evaluator) {
            askCounts[session] = 0;
            askNext[session] = 0;
            for (int i = 0; i < c.selectCount; i++) {
                Select s = c.selects.get(i);
                if (s.at != NONE) {
                    prepareSelect(session, s, c, evaluator);
                }
            }
            if (c.statement == INSERT) {
                prepareInsert(session, c, evaluator);
            } else if (c.statement != SELECT && c.top != null) {
                int x = setsKey(c) ? NONE : c.pinnedTo(c.top, parts);
                prepareOne(session, c.target, x, X_MODE, evaluator);
            }
            dropCovered(session);
            makeReady(session);
        }

        void prepareSelect(int session, Select s, Code c, Evaluator evaluator) {
            int x = c.pinnedTo(s, parts);
            for (int i = 0; i < s.itemCount; i++) {
                prepareOne(session, s.items[i].table, x, S_MODE, evaluator);
            }
        }

        /** A MODE of a table; or of the KEY that an EXPR tells, and what that needs of the table. */
        void prepareOne(int session, int table, int x, int mode, Evaluator evaluator) {
            if (x == NONE) {
                want(session, table, WHOLE_TABLE, 0, mode);
                return;
            }
            want(session, table, WHOLE_TABLE, 0, mode == X_MODE ? IX_MODE : IS_MODE);
            evaluator.eval(x);
            evaluator.top--;
            if (evaluator.stack[evaluator.top * CELL] != NULL) {
                want(session, table, evaluator.stack, evaluator.top, mode);
            }
        }

        void prepareInsert(int session, Code c, Evaluator evaluator) {
            int root = 0;
            for (int r = 0; r < c.rowCount && root < c.rootCount; r++) {
                prepareOne(session, c.target, c.roots[root], X_MODE, evaluator);
                root += c.rowSize[r];
            }
        }

        void want(int session, int table, long[] cells, int cell, int mode) {
            int[] tables = askTables[session];
            int[] modes = askModes[session];
            long[] keys = askKeys[session];
            int n = askCounts[session];
            int at = 0;
            while (at < n && (tables[at] < table || tables[at] == table && Table.compare(keys, at, cells, cell) < 0)) {
                at++;
            }
            if (at < n && tables[at] == table && Table.compare(keys, at, cells, cell) == 0) {
                modes[at] = both(modes[at], mode);
                return;
            }
            if (n >= MOST_ASKS) {
                return;
            }
            for (int i = n; i > at; i--) {
                copyAsk(session, i - 1, i);
            }
            tables[at] = table;
            modes[at] = mode;
            System.arraycopy(cells, cell * CELL, keys, at * CELL, CELL);
            askCounts[session] = n + 1;
        }

        void copyAsk(int session, int from, int to) {
            askTables[session][to] = askTables[session][from];
            askModes[session][to] = askModes[session][from];
            System.arraycopy(askKeys[session], from * CELL, askKeys[session], to * CELL, CELL);
        }

        /** KEYS need no lock where the MODE asked of their table is enough. */
        void dropCovered(int session) {
            int to = 0;
            int tableMode = 0;
            for (int i = 0; i < askCounts[session]; i++) {
                int mode = askModes[session][i];
                boolean isKey = askKeys[session][i * CELL] != NULL;
                tableMode = isKey ? tableMode : mode;
                if (!isKey || !covers(tableMode, mode)) {
                    copyAsk(session, i, to);
                    to++;
                }
            }
            askCounts[session] = to;
        }

        /** Asks what a session's statement has not asked yet: 0 when it has all, BLOCKED, or DEADLOCK. */
        int ask(int session) {
            while (askNext[session] < askCounts[session]) {
                int i = askNext[session];
                askNext[session] = i + 1;
                Place p = placeOf(askTables[session][i], askKeys[session], i);
                int has = p.have[session];
                int wanted = both(has, askModes[session][i]);
                if (wanted == has) {
                    continue;
                }
                if (p.fits(session, wanted) && (has != 0 || p.waiting == 0)) {
                    p.have[session] = wanted;
                    continue;
                }
                p.enqueue(session, wanted);
                waitsAt[session] = p;
                return waitsForItself(session) ? DEADLOCK : BLOCKED;
            }
            return 0;
        }

        boolean waitsForItself(int session) {
            int bits = 1 << session;
            int reached = 0;
            for (int n = 0; n < SESSIONS; n++) {
                for (int i = 0; i < SESSIONS; i++) {
                    if ((bits >> i & 1) == 1 && waitsAt[i] != null) {
                        reached |= waitsAt[i].waitsFor(i);
                    }
                }
                bits |= reached;
            }
            return (reached >> session & 1) == 1;
        }

        /** A transaction that is over has and waits for nothing; others may get what it kept from them. */
        void release(int session) {
            for (int i = 0; i < places.size(); i++) {
                Place p = places.get(i);
                p.touched = p.have[session] != 0 || waitsAt[session] == p;
                p.have[session] = 0;
                p.leaveQueue(session);
            }
            waitsAt[session] = null;
            for (int i = 0; i < places.size(); i++) {
                if (places.get(i).touched) {
                    grant(places.get(i));
                }
            }
            dropFree();
        }

        void giveUpWait(int session) {
            Place p = waitsAt[session];
            if (p != null) {
                p.leaveQueue(session);
                waitsAt[session] = null;
                grant(p);
                dropFree();
            }
        }

        void grant(Place p) {
            for (int n = p.waiting; n > 0 && p.fits(p.queue[0], p.want[p.queue[0]]); n--) {
                int session = p.queue[0];
                p.have[session] = p.want[session];
                p.leaveQueue(session);
                waitsAt[session] = null;
                makeReady(session);
            }
        }

        void dropFree() {
            for (int i = places.size() - 1; i >= 0; i--) {
                if (places.get(i).isFree()) {
                    spare.add(places.remove(i));
                }
            }
        }

        void makeReady(int session) {
            if (readyCount < SESSIONS) {
                ready[readyCount] = session;
                readyCount++;
            }
        }

        /** The session that goes on next, or NONE. */
        int takeReady() {
            if (readyCount == 0) {
                return NONE;
            }
            int session = ready[0];
            readyCount--;
            for (int i = 0; i < readyCount; i++) {
                ready[i] = ready[i + 1];
            }
            return session;
        }

        void forgetAll() {
            readyCount = 0;
            for (int i = 0; i < SESSIONS; i++) {
                waitsAt[i] = null;
            }
            for (int i = places.size() - 1; i >= 0; i--) {
                Place p = places.remove(i);
                Arrays.fill(p.have, 0);
                Arrays.fill(p.want, 0);
                p.waiting = 0;
                spare.add(p);
            }
        }
    }
}
