import java.util.ArrayList;

/** A store of versioned rows with transactions, indexes by expressions, and files in levels. */
public final class VersionedRows {
    public static final int NONE = -1;
    public static final int BEATEN = -2;
    public static final int FULL = -3;

    private static final int OP_NUMBER = 0;
    private static final int OP_FLAG = 1;
    private static final int OP_NAME = 2;
    private static final int OP_CONST = 3;
    private static final int OP_PLUS = 4;
    private static final int OP_MINUS = 5;
    private static final int OP_TIMES = 6;
    private static final int OP_LESS = 7;
    private static final int OP_SAME = 8;
    private static final int OP_AND = 9;
    private static final int OP_OR = 10;
    private static final int OP_NOT = 11;
    private static final int OP_STARTS = 12;

    private static final int STATE_OPEN = 1;
    private static final int STATE_COMMITTED = 2;
    private static final int STATE_BEATEN = 3;
    private static final int STATE_ABORTED = 4;
    private static final int STATE_LOST = 5;

    private static final int KEYS = 32;
    private static final int PILE_LIMIT = 8;
    private static final int NODE_LIMIT = 15;
    private static final int INDEX_LIMIT = 3;
    private static final int TRANSACTION_LIMIT = 60;
    private static final int OPEN_LIMIT = 5;

    private static final int ROW_SPACE = 0;
    private static final int ROW_VALUE = 0;
    private static final int ENTRY_LIMIT = 500;
    private static final int MEMORY_LIMIT = 20;
    private static final int FILE_LIMIT = 12;
    private static final int LAST_LEVEL = 2;
    private static final int LEVEL_0_LIMIT = 2;
    private static final int LEVEL_1_LIMIT = 3;

    private static final int LETTERS = 27;
    private static final int LETTERS_SQUARED = 729;
    private static final int LAST_NAME = 19682;

    private static final int LEAST_INT = -2147483648;
    private static final int GREATEST_INT = 2147483647;

    /** Far above the rounds that a flush can need: each takes a file off level 0 or level 1. */
    private static final int ROUND_LIMIT = 1000000;

    private final Expression[] pile = new Expression[PILE_LIMIT];
    private int pileSize;
    private final Expression[] indexes = new Expression[INDEX_LIMIT];
    private int indexCount;
    private final Transaction[] transactions = new Transaction[TRANSACTION_LIMIT];
    private int transactionCount;
    private final Store store = new Store();
    private int lastStamp;
    private final int[] resultKeys = new int[KEYS];
    private int resultSize;
    private int planIndex = NONE;
    private Range planRange;
    private int planCandidates;

    public VersionedRows() {
    }

    public boolean say(int op, int n) {
        if (op < OP_NUMBER || op > OP_STARTS || (op == OP_STARTS && !isName(n))) {
            return false;
        }
        int parts = partsOf(op);
        int rest = pileSize - parts;
        if (rest < 0 || rest >= PILE_LIMIT) {
            return false;
        }
        Expression first = parts == 0 ? null : pile[rest];
        Expression second = parts == 2 ? pile[rest + 1] : null;
        if (!fits(op, first) || !fits(op, second)
                || 1 + Expression.nodesOf(first) + Expression.nodesOf(second) > NODE_LIMIT) {
            return false;
        }
        pile[rest] = new Expression(op, countsN(op) ? n : 0, first, second);
        pileSize = rest + 1;
        return true;
    }

    public int index() {
        Expression top = topOfPile();
        if (top == null || top.isBool() || indexCount >= INDEX_LIMIT || lastStamp > 0) {
            return NONE;
        }
        pileSize--;
        indexes[indexCount] = top;
        indexCount++;
        return indexCount - 1;
    }

    public int begin() {
        if (transactionCount >= TRANSACTION_LIMIT || countOpen() >= OPEN_LIMIT) {
            return NONE;
        }
        transactions[transactionCount] = new Transaction(lastStamp);
        transactionCount++;
        return transactionCount - 1;
    }

    public int read(int t, int key, int field) {
        Transaction reader = openOne(t);
        if (reader == null || !isKey(key) || field < 0 || field > 3) {
            return NONE;
        }
        Row row = rowFor(reader, key);
        if (row == null) {
            return 0;
        }
        switch (field) {
            case 0:
                return row.number;
            case 1:
                return row.flag;
            case 2:
                return row.name;
            default:
                return 1;
        }
    }

    public boolean write(int t, int key, int number, int flag, int name) {
        Transaction writer = openOne(t);
        if (writer == null || !isKey(key) || flag < 0 || flag > 1 || !isName(name)) {
            return false;
        }
        writer.put(key, new Row(number, flag, name));
        return true;
    }

    public boolean remove(int t, int key) {
        Transaction writer = openOne(t);
        if (writer == null || !isKey(key)) {
            return false;
        }
        writer.put(key, null);
        return true;
    }

    public int query(int t) {
        Transaction reader = openOne(t);
        Expression asked = topOfPile();
        if (reader == null || asked == null || !asked.isBool()) {
            return NONE;
        }
        pileSize--;
        choosePlan(asked);
        countCandidates(reader.begin);
        fillResult(asked, reader);
        return resultSize;
    }

    public int commit(int t) {
        Transaction writer = openOne(t);
        if (writer == null) {
            return NONE;
        }
        if (isTooLate(writer)) {
            writer.state = STATE_BEATEN;
            return BEATEN;
        }
        if (!writer.hasWrites) {
            writer.state = STATE_COMMITTED;
            return writer.begin;
        }
        if (!store.hasRoomFor(batchSize(writer))) {
            return FULL;
        }
        takeBatch(writer);
        if (store.inMemory >= MEMORY_LIMIT) {
            flushAndMerge();
        }
        return lastStamp;
    }

    public int tear(int t, int n) {
        Transaction writer = openOne(t);
        if (writer == null || n < 0 || !writer.hasWrites || isTooLate(writer)) {
            return NONE;
        }
        int size = batchSize(writer);
        if (!store.hasRoomFor(size)) {
            return NONE;
        }
        boolean whole = n > size;
        if (whole) {
            takeBatch(writer);
        }
        loseOpenOnes();
        return whole ? 1 : 0;
    }

    public boolean abort(int t) {
        Transaction one = openOne(t);
        if (one == null) {
            return false;
        }
        one.state = STATE_ABORTED;
        return true;
    }

    public int flush() {
        return store.writeMemoryOut();
    }

    public int compact() {
        int level = store.countFiles(0) > 0 ? 0 : 1;
        return store.mergeDown(level, horizon());
    }

    public int crash() {
        return loseOpenOnes();
    }

    public int result(int i) {
        return i >= 0 && i < resultSize ? resultKeys[i] : NONE;
    }

    public long plan(int what) {
        switch (what) {
            case 0:
                return planIndex;
            case 1:
                return planCandidates;
            case 2:
                return planRange == null ? 0 : planRange.low;
            case 3:
                return planRange == null ? 0 : planRange.high;
            default:
                return NONE;
        }
    }

    public int state(int t) {
        Transaction one = transactionOf(t);
        return one == null ? NONE : one.state;
    }

    public int about(int what) {
        switch (what) {
            case 0:
                return lastStamp;
            case 1:
                return horizon();
            case 2:
                return store.inMemory;
            case 3:
                return store.count - store.inMemory;
            case 4:
                return pileSize;
            case 5:
                return typeOfTop();
            case 6:
                return indexCount;
            default:
                return NONE;
        }
    }

    public int files(int level) {
        return level < 0 || level > LAST_LEVEL ? NONE : store.countFiles(level);
    }

    public int file(int level, int k, int what) {
        SortedFile found = store.fileOn(level, k);
        return found == null ? NONE : found.tell(what);
    }

    private static boolean isKey(int key) {
        return key >= 0 && key < KEYS;
    }

    private static boolean isName(int n) {
        if (n < 0 || n > LAST_NAME) {
            return false;
        }
        int first = n / LETTERS_SQUARED;
        int second = n / LETTERS % LETTERS;
        int third = n % LETTERS;
        return (first != 0 || second == 0) && (second != 0 || third == 0);
    }

    private static int partsOf(int op) {
        if (op == OP_NOT) {
            return 1;
        }
        return op >= OP_PLUS && op <= OP_OR ? 2 : 0;
    }

    private static boolean countsN(int op) {
        return op == OP_CONST || op == OP_STARTS;
    }

    private static boolean takesBools(int op) {
        return op == OP_AND || op == OP_OR || op == OP_NOT;
    }

    private static boolean fits(int op, Expression part) {
        return part == null || part.isBool() == takesBools(op);
    }

    private Expression topOfPile() {
        return pileSize > 0 ? pile[pileSize - 1] : null;
    }

    private int typeOfTop() {
        Expression top = topOfPile();
        if (top == null) {
            return NONE;
        }
        return top.isBool() ? 1 : 0;
    }

    private Transaction transactionOf(int t) {
        return t >= 0 && t < transactionCount ? transactions[t] : null;
    }

    private Transaction openOne(int t) {
        Transaction one = transactionOf(t);
        return one != null && one.isOpen() ? one : null;
    }

    private int countOpen() {
        int open = 0;
        for (int t = 0; t < transactionCount; t++) {
            if (transactions[t].isOpen()) {
                open++;
            }
        }
        return open;
    }

    private int loseOpenOnes() {
        int lost = 0;
        for (int t = 0; t < transactionCount; t++) {
            if (transactions[t].isOpen()) {
                transactions[t].state = STATE_LOST;
                lost++;
            }
        }
        return lost;
    }

    private int horizon() {
        int least = lastStamp;
        for (int t = 0; t < transactionCount; t++) {
            if (transactions[t].isOpen()) {
                least = Math.min(least, transactions[t].begin);
            }
        }
        return least;
    }

    private Row rowFor(Transaction reader, int key) {
        return reader.written[key] ? reader.rows[key] : store.rowAt(key, reader.begin);
    }

    private boolean isTooLate(Transaction writer) {
        for (int key = 0; key < KEYS; key++) {
            if (writer.written[key] && store.lastStampOf(key) > writer.begin) {
                return true;
            }
        }
        return false;
    }

    private int batchSize(Transaction writer) {
        int size = 0;
        for (int key = 0; key < KEYS; key++) {
            if (writer.written[key]) {
                size += 1 + countIndexEntries(store.rowAt(key, lastStamp), writer.rows[key]);
            }
        }
        return size;
    }

    private int countIndexEntries(Row old, Row now) {
        int size = 0;
        for (int i = 0; i < indexCount; i++) {
            size += hasOwnValue(i, old, now) ? 1 : 0;
            size += hasOwnValue(i, now, old) ? 1 : 0;
        }
        return size;
    }

    /** Whether a row has a value in an index that the other row has not. */
    private boolean hasOwnValue(int i, Row row, Row other) {
        return row != null && (other == null || valueIn(i, row) != valueIn(i, other));
    }

    private int valueIn(int i, Row row) {
        return Expression.numberOf(indexes[i], row);
    }

    private void takeBatch(Transaction writer) {
        int stamp = lastStamp + 1;
        for (int key = 0; key < KEYS; key++) {
            if (writer.written[key]) {
                Row old = store.rowAt(key, lastStamp);
                Row now = writer.rows[key];
                store.add(new Entry(ROW_SPACE, ROW_VALUE, key, stamp, now));
                addIndexEntries(key, stamp, old, now);
            }
        }
        lastStamp = stamp;
        writer.state = STATE_COMMITTED;
    }

    private void addIndexEntries(int key, int stamp, Row old, Row now) {
        for (int i = 0; i < indexCount; i++) {
            if (hasOwnValue(i, old, now)) {
                store.add(new Entry(i + 1, valueIn(i, old), key, stamp, null));
            }
            if (hasOwnValue(i, now, old)) {
                store.add(new Entry(i + 1, valueIn(i, now), key, stamp, now));
            }
        }
    }

    private void flushAndMerge() {
        store.writeMemoryOut();
        int horizon = horizon();
        for (int round = 0; round < ROUND_LIMIT; round++) {
            int level = store.overfullLevel();
            if (level == NONE) {
                return;
            }
            store.mergeDown(level, horizon);
        }
    }

    private void choosePlan(Expression asked) {
        planIndex = NONE;
        planRange = null;
        for (int i = 0; i < indexCount; i++) {
            Range range = new Range(indexes[i]);
            Range.tellConjuncts(asked, range);
            if (range.isSaid && (planRange == null || range.width() < planRange.width())) {
                planIndex = i;
                planRange = range;
            }
        }
    }

    private void countCandidates(int stamp) {
        planCandidates = planRange == null
                ? store.countThere(ROW_SPACE, ROW_VALUE, ROW_VALUE, stamp)
                : store.countThere(planIndex + 1, planRange.low, planRange.high, stamp);
    }

    /** Goes over all keys whatever the plan is: what the transaction writes itself need not be a candidate. */
    private void fillResult(Expression asked, Transaction reader) {
        resultSize = 0;
        for (int key = 0; key < KEYS; key++) {
            Row row = rowFor(reader, key);
            if (row != null && Expression.isTrueOf(asked, row)) {
                resultKeys[resultSize] = key;
                resultSize++;
            }
        }
    }

    private static final class Row {
        private final int number;
        private final int flag;
        private final int name;

        private Row(int number, int flag, int name) {
            this.number = number;
            this.flag = flag;
            this.name = name;
        }

        private boolean startsWith(int letters) {
            if (letters == 0) {
                return true;
            }
            if (letters % LETTERS_SQUARED == 0) {
                return name / LETTERS_SQUARED == letters / LETTERS_SQUARED;
            }
            if (letters % LETTERS == 0) {
                return name / LETTERS == letters / LETTERS;
            }
            return name == letters;
        }
    }

    /**
     * An expression never changes, so others may have it as their part. Those that go down into
     * the parts go at most as deep as NODE_LIMIT, beyond which say refuses.
     */
    private static final class Expression {
        private final int op;
        private final int n;
        private final Expression first;
        private final Expression second;
        private final int nodes;

        private Expression(int op, int n, Expression first, Expression second) {
            this.op = op;
            this.n = n;
            this.first = first;
            this.second = second;
            this.nodes = 1 + nodesOf(first) + nodesOf(second);
        }

        private static int nodesOf(Expression part) {
            return part == null ? 0 : part.nodes;
        }

        private boolean isBool() {
            return op >= OP_LESS;
        }

        private boolean isConst() {
            return op == OP_CONST;
        }

        private static boolean areSame(Expression a, Expression b) {
            if (a == null || b == null) {
                return a == b;
            }
            return a.op == b.op && a.n == b.n && areSame(a.first, b.first) && areSame(a.second, b.second);
        }

        private static int numberOf(Expression e, Row row) {
            if (e == null) {
                return 0;
            }
            switch (e.op) {
                case OP_NUMBER:
                    return row.number;
                case OP_FLAG:
                    return row.flag;
                case OP_NAME:
                    return row.name;
                case OP_PLUS:
                    return numberOf(e.first, row) + numberOf(e.second, row);
                case OP_MINUS:
                    return numberOf(e.first, row) - numberOf(e.second, row);
                case OP_TIMES:
                    return numberOf(e.first, row) * numberOf(e.second, row);
                default:
                    return e.n;
            }
        }

        private static boolean isTrueOf(Expression e, Row row) {
            if (e == null) {
                return false;
            }
            switch (e.op) {
                case OP_LESS:
                    return numberOf(e.first, row) < numberOf(e.second, row);
                case OP_SAME:
                    return numberOf(e.first, row) == numberOf(e.second, row);
                case OP_AND:
                    return isTrueOf(e.first, row) && isTrueOf(e.second, row);
                case OP_OR:
                    return isTrueOf(e.first, row) || isTrueOf(e.second, row);
                case OP_NOT:
                    return !isTrueOf(e.first, row);
                default:
                    return row.startsWith(e.n);
            }
        }
    }

    /** What the conjuncts of a query say of the values of an index: longs, as c - 1 and c + 1 may be no ints. */
    private static final class Range {
        private final Expression subject;
        private long low = LEAST_INT;
        private long high = GREATEST_INT;
        private boolean isSaid;

        private Range(Expression subject) {
            this.subject = subject;
        }

        private long width() {
            return high - low;
        }

        private static void tellConjuncts(Expression e, Range range) {
            if (e == null) {
                return;
            }
            if (e.op == OP_AND) {
                tellConjuncts(e.first, range);
                tellConjuncts(e.second, range);
            } else if (e.op == OP_LESS || e.op == OP_SAME) {
                range.hear(e.op == OP_SAME, e.first, e.second);
            }
        }

        /** Both forms are looked for: an index that is a CONST itself may stand on either side. */
        private void hear(boolean same, Expression first, Expression second) {
            if (first == null || second == null) {
                return;
            }
            if (second.isConst() && Expression.areSame(first, subject)) {
                long c = second.n;
                narrow(same ? c : low, same ? c : c - 1);
            }
            if (first.isConst() && Expression.areSame(second, subject)) {
                long c = first.n;
                narrow(same ? c : c + 1, same ? c : high);
            }
        }

        private void narrow(long least, long greatest) {
            low = Math.max(low, least);
            high = Math.min(high, greatest);
            isSaid = true;
        }
    }

    private static final class Transaction {
        private final int begin;
        private int state = STATE_OPEN;
        private boolean hasWrites;
        private final boolean[] written = new boolean[KEYS];
        private final Row[] rows = new Row[KEYS];

        private Transaction(int begin) {
            this.begin = begin;
        }

        private boolean isOpen() {
            return state == STATE_OPEN;
        }

        private void put(int key, Row row) {
            hasWrites = true;
            written[key] = true;
            rows[key] = row;
        }
    }

    /** An entry is live when it has a row (those of an index have that of their key too), else dead. */
    private static final class Entry {
        private final int space;
        private final int value;
        private final int key;
        private final long place;
        private final int stamp;
        private final Row row;
        /** The file that it lies in; null in memory. */
        private SortedFile home;

        private Entry(int space, int value, int key, int stamp, Row row) {
            this.space = space;
            this.value = value;
            this.key = key;
            this.place = placeOf(space, value, key);
            this.stamp = stamp;
            this.row = row;
        }

        /** Space, value and key as one number of the same order. */
        private static long placeOf(int space, int value, int key) {
            return ((long) space << 37) + (((long) value - LEAST_INT) << 5) + key;
        }

        private boolean isBefore(long otherPlace, int otherStamp) {
            return place < otherPlace || (place == otherPlace && stamp > otherStamp);
        }

        private boolean isWithin(int ofSpace, long low, long high) {
            return space == ofSpace && value >= low && value <= high;
        }

        private boolean isInRetiredFile() {
            return home != null && home.isRetired;
        }
    }

    /** A file knows its ends alone: its entries lie among all entries of the store and name it as their home. */
    private static final class SortedFile {
        private final int number;
        private final int level;
        private final Entry first;
        private Entry last;
        private int size;
        private boolean isRetired;

        private SortedFile(int number, int level, Entry first) {
            this.number = number;
            this.level = level;
            this.first = first;
            this.last = first;
        }

        private void append(Entry e) {
            e.home = this;
            last = e;
            size++;
        }

        private boolean isFullBefore(Entry next) {
            return size >= FILE_LIMIT && last.place != next.place;
        }

        private boolean meets(SortedFile other) {
            return last.place >= other.first.place && other.last.place >= first.place;
        }

        private int tell(int what) {
            switch (what) {
                case 0:
                    return number;
                case 1:
                    return size;
                case 2:
                    return first.space;
                case 3:
                    return first.value;
                case 4:
                    return first.key;
                case 5:
                    return last.space;
                case 6:
                    return last.value;
                case 7:
                    return last.key;
                default:
                    return NONE;
            }
        }
    }

    /** Tells, of entries that come in their order, which are kept when files are merged. */
    private static final class Sieve {
        private final int horizon;
        private final boolean dropsDead;
        private Entry before;
        private boolean isCovered;

        private Sieve(int horizon, boolean dropsDead) {
            this.horizon = horizon;
            this.dropsDead = dropsDead;
        }

        private boolean keeps(Entry e) {
            if (before == null || before.place != e.place) {
                isCovered = false;
            }
            before = e;
            if (isCovered) {
                return false;
            }
            isCovered = e.stamp <= horizon;
            return !(isCovered && dropsDead && e.row == null);
        }
    }

    /**
     * All entries, of memory and of every file, lie in their order in one array. So a look-up is one
     * search, and a merge is one walk that gives the entries of the retired files a new home.
     */
    private static final class Store {
        private final Entry[] entries = new Entry[ENTRY_LIMIT];
        private int count;
        private int inMemory;
        /** By rising numbers, as a new file always has the greatest. */
        private final ArrayList<SortedFile> sortedFiles = new ArrayList<SortedFile>();
        private int filesMade;

        private boolean hasRoomFor(int more) {
            return count + more <= ENTRY_LIMIT;
        }

        private void add(Entry e) {
            if (!hasRoomFor(1)) {
                return;
            }
            int at = countBefore(e.place, e.stamp);
            for (int i = count; i > at; i--) {
                entries[i] = entries[i - 1];
            }
            entries[at] = e;
            count++;
            inMemory++;
        }

        /** A search by halving: the steps together reach beyond ENTRY_LIMIT. */
        private int countBefore(long place, int stamp) {
            int passed = 0;
            for (int step = 256; step > 0; step /= 2) {
                int ahead = passed + step;
                if (ahead <= count && entries[ahead - 1].isBefore(place, stamp)) {
                    passed = ahead;
                }
            }
            return passed;
        }

        private Entry seenRow(int key, int stamp) {
            long place = Entry.placeOf(ROW_SPACE, ROW_VALUE, key);
            int i = countBefore(place, stamp);
            return i < count && entries[i].place == place ? entries[i] : null;
        }

        private Row rowAt(int key, int stamp) {
            Entry seen = seenRow(key, stamp);
            return seen == null ? null : seen.row;
        }

        private int lastStampOf(int key) {
            Entry latest = seenRow(key, GREATEST_INT);
            return latest == null ? 0 : latest.stamp;
        }

        private int countThere(int space, long low, long high, int stamp) {
            int there = 0;
            Entry seen = null;
            for (int i = 0; i < count; i++) {
                Entry e = entries[i];
                if (e.stamp <= stamp && (seen == null || seen.place != e.place)) {
                    seen = e;
                    there += e.row != null && e.isWithin(space, low, high) ? 1 : 0;
                }
            }
            return there;
        }

        private int writeMemoryOut() {
            int written = inMemory;
            SortedFile into = null;
            for (int i = 0; i < count; i++) {
                Entry e = entries[i];
                if (e.home == null) {
                    into = into == null ? newFile(0, e) : into;
                    into.append(e);
                }
            }
            inMemory = 0;
            return written;
        }

        private SortedFile newFile(int level, Entry first) {
            filesMade++;
            SortedFile made = new SortedFile(filesMade, level, first);
            sortedFiles.add(made);
            return made;
        }

        private int countFiles(int level) {
            int found = 0;
            for (int i = 0; i < sortedFiles.size(); i++) {
                found += sortedFiles.get(i).level == level ? 1 : 0;
            }
            return found;
        }

        private SortedFile fileOn(int level, int k) {
            int passed = 0;
            for (int i = 0; i < sortedFiles.size(); i++) {
                SortedFile f = sortedFiles.get(i);
                if (f.level == level) {
                    if (passed == k) {
                        return f;
                    }
                    passed++;
                }
            }
            return null;
        }

        private int overfullLevel() {
            if (countFiles(0) > LEVEL_0_LIMIT) {
                return 0;
            }
            return countFiles(1) > LEVEL_1_LIMIT ? 1 : NONE;
        }

        private int mergeDown(int level, int horizon) {
            SortedFile oldest = fileOn(level, 0);
            if (oldest == null) {
                return NONE;
            }
            retire(oldest);
            return moveRetired(level + 1, horizon);
        }

        private void retire(SortedFile oldest) {
            for (int i = sortedFiles.size() - 1; i >= 0; i--) {
                SortedFile f = sortedFiles.get(i);
                if (f == oldest || (f.level == oldest.level + 1 && f.meets(oldest))) {
                    f.isRetired = true;
                    sortedFiles.remove(i);
                }
            }
        }

        private int moveRetired(int level, int horizon) {
            Sieve sieve = new Sieve(horizon, level == LAST_LEVEL);
            SortedFile into = null;
            int kept = 0;
            for (int i = 0; i < count; i++) {
                Entry e = entries[i];
                if (e.isInRetiredFile()) {
                    if (!sieve.keeps(e)) {
                        continue;
                    }
                    into = into == null || into.isFullBefore(e) ? newFile(level, e) : into;
                    into.append(e);
                }
                entries[kept] = e;
                kept++;
            }
            int leftOut = count - kept;
            count = kept;
            return leftOut;
        }
    }
}
