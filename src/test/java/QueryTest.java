/** Promises 8, 15 and 16: query, result, plan. */
public final class QueryTest {
    private static final Due DUE = new Due();
    private static final long LEAST = Integer.MIN_VALUE;
    private static final long GREATEST = Integer.MAX_VALUE;

    public static void main(String[] args) {
        promise8Refused();
        promise8Operations();
        promise8Starts();
        promise8Wraps();
        promise8OwnWrites();
        promise8AsOfTheBegin();
        promise15Result();
        promise16Forms();
        promise16NotOfAForm();
        promise16Conjuncts();
        promise16LeastWidth();
        promise16Longs();
        promise16ConstIndex();
        promise16Candidates();
        promise16WrongInputs();
        DUE.end("QueryTest");
    }

    /** Keys 0 .. 5 with the numbers 10 .. 15, the flags 0 and 1 in turn, and some names. */
    private static VersionedRows sixRows(VersionedRows x) {
        int[] names = {0, 729, 756, 757, 783, 1458};
        int t = x.begin();
        for (int key = 0; key < 6; key++) {
            x.write(t, key, 10 + key, key % 2, names[key]);
        }
        x.commit(t);
        x.begin();
        return x;
    }

    private static void ask(VersionedRows x, String name, int[] query, int... keys) {
        DUE.is(name + ": said", true, Steps.sayAll(x, query));
        DUE.is(name, keys.length, x.query(1));
        Steps.result(DUE, name, x, keys);
    }

    private static int[] of(int... query) {
        return query;
    }

    private static void promise8Refused() {
        VersionedRows x = sixRows(new VersionedRows());
        DUE.is("an empty pile", -1, x.query(1));
        x.say(Steps.NUMBER, 0);
        DUE.is("an INT", -1, x.query(1));
        x.say(Steps.STARTS, 0);
        DUE.is("a committed one", -1, x.query(0));
        DUE.is("t -1", -1, x.query(-1));
        DUE.is("t 2", -1, x.query(2));
        DUE.is("the pile stays", 2, x.about(4));
        Steps.plan(DUE, "no query yet", x, -1, 0, 0, 0);
        DUE.is("now", 6, x.query(1));
        DUE.is("it is taken off", 1, x.about(4));
        DUE.is("refused", -1, x.query(1));
        Steps.plan(DUE, "the plan stays", x, -1, 6, 0, 0);
        Steps.result(DUE, "the result stays", x, 0, 1, 2, 3, 4, 5);
    }

    private static void promise8Operations() {
        VersionedRows x = sixRows(new VersionedRows());
        ask(x, "NUMBER = 12", of(0, 0, 3, 12, 8, 0), 2);
        ask(x, "FLAG = 1", of(1, 0, 3, 1, 8, 0), 1, 3, 5);
        ask(x, "NAME = 757", of(2, 0, 3, 757, 8, 0), 3);
        ask(x, "NUMBER < 12", of(0, 0, 3, 12, 7, 0), 0, 1);
        ask(x, "12 < NUMBER", of(3, 12, 0, 0, 7, 0), 3, 4, 5);
        ask(x, "NUMBER + FLAG = 14", of(0, 0, 1, 0, 4, 0, 3, 14, 8, 0), 3, 4);
        ask(x, "NUMBER - 11 < 1", of(0, 0, 3, 11, 5, 0, 3, 1, 7, 0), 0, 1);
        ask(x, "11 - NUMBER < 0", of(3, 11, 0, 0, 5, 0, 3, 0, 7, 0), 2, 3, 4, 5);
        ask(x, "NUMBER * FLAG < 12", of(0, 0, 1, 0, 6, 0, 3, 12, 7, 0), 0, 1, 2, 4);
        ask(x, "11 < NUMBER and FLAG = 0", of(3, 11, 0, 0, 7, 0, 1, 0, 3, 0, 8, 0, 9, 0), 2, 4);
        ask(x, "NUMBER < 11 or FLAG = 1", of(0, 0, 3, 11, 7, 0, 1, 0, 3, 1, 8, 0, 10, 0), 0, 1, 3, 5);
        ask(x, "not NUMBER < 13", of(0, 0, 3, 13, 7, 0, 11, 0), 3, 4, 5);
        ask(x, "none", of(0, 0, 0, 0, 7, 0));
    }

    private static void promise8Starts() {
        VersionedRows x = sixRows(new VersionedRows());
        ask(x, "with nothing", of(12, 0), 0, 1, 2, 3, 4, 5);
        ask(x, "with a", of(12, 729), 1, 2, 3, 4);
        ask(x, "with aa", of(12, 756), 2, 3);
        ask(x, "with aaa", of(12, 757), 3);
        ask(x, "with ab", of(12, 783), 4);
        ask(x, "with b", of(12, 1458), 5);
        ask(x, "with ba", of(12, 1485));
        ask(x, "with zzz", of(12, 19682));
        ask(x, "not with a", of(12, 729, 11, 0), 0, 5);
    }

    private static void promise8Wraps() {
        VersionedRows x = new VersionedRows();
        int t = x.begin();
        x.write(t, 0, Integer.MAX_VALUE, 0, 0);
        x.write(t, 1, Integer.MIN_VALUE, 0, 0);
        x.write(t, 2, 65536, 0, 0);
        x.commit(t);
        x.begin();
        ask(x, "NUMBER + 1 < 0", of(0, 0, 3, 1, 4, 0, 3, 0, 7, 0), 0, 1);
        ask(x, "0 < NUMBER - 1", of(3, 0, 0, 0, 3, 1, 5, 0, 7, 0), 0, 1, 2);
        ask(x, "NUMBER * NUMBER = 0", of(0, 0, 0, 0, 6, 0, 3, 0, 8, 0), 1, 2);
        ask(x, "NUMBER < 0", of(0, 0, 3, 0, 7, 0), 1);
        ask(x, "the least < NUMBER", of(3, Integer.MIN_VALUE, 0, 0, 7, 0), 0, 2);
    }

    private static void promise8OwnWrites() {
        VersionedRows x = sixRows(Steps.withIndexes(Steps.NUMBER));
        x.write(1, 31, 12, 0, 0);
        x.write(1, 0, 12, 0, 0);
        x.remove(1, 2);
        x.write(1, 3, 99, 0, 0);
        ask(x, "NUMBER = 12", of(0, 0, 3, 12, 8, 0), 0, 31);
        Steps.plan(DUE, "candidates are of the begin", x, 0, 1, 12, 12);
        ask(x, "all", of(12, 0), 0, 1, 3, 4, 5, 31);
        Steps.plan(DUE, "rows of the begin", x, -1, 6, 0, 0);
    }

    private static void promise8AsOfTheBegin() {
        VersionedRows x = sixRows(Steps.withIndexes(Steps.NUMBER));
        Steps.commitRows(x, 2, 2, 50);
        Steps.commitRemoval(x, 3);
        Steps.commitRows(x, 8, 8, 4);
        x.flush();
        x.compact();
        ask(x, "11 < NUMBER", of(3, 11, 0, 0, 7, 0), 2, 3, 4, 5);
        Steps.plan(DUE, "as of the begin", x, 0, 4, 12, GREATEST);
        int late = x.begin();
        Steps.sayAll(x, 3, 11, 0, 0, 7, 0);
        DUE.is("a later one", 4, x.query(late));
        Steps.result(DUE, "a later one", x, 2, 4, 5, 8);
        Steps.plan(DUE, "a later one", x, 0, 4, 12, GREATEST);
    }

    private static void promise15Result() {
        VersionedRows x = sixRows(new VersionedRows());
        DUE.is("no query yet", -1, x.result(0));
        ask(x, "FLAG = 1", of(1, 0, 3, 1, 8, 0), 1, 3, 5);
        int[] wrong = {-1, 3, 31, 32, Integer.MAX_VALUE, Integer.MIN_VALUE};
        for (int i : wrong) {
            DUE.is("result(" + i + ")", -1, x.result(i));
        }
        ask(x, "a shorter one", of(0, 0, 3, 14, 8, 0), 4);
        DUE.is("nothing of the one before", -1, x.result(2));
        x.commit(1);
        DUE.is("it stays when the transaction has ended", 4, x.result(0));
        Steps.commitRows(x, 0, 31, 0);
        int t = x.begin();
        x.say(Steps.STARTS, 0);
        DUE.is("all keys", 32, x.query(t));
        DUE.is("the last key", 31, x.result(31));
        DUE.is("none behind it", -1, x.result(32));
    }

    private static void planOf(VersionedRows x, String name, int[] query, long[] due) {
        DUE.is(name + ": said", true, Steps.sayAll(x, query));
        DUE.is(name + ": asked", true, x.query(1) >= 0);
        Steps.plan(DUE, name, x, due[0], due[1], due[2], due[3]);
    }

    private static long[] plan(long index, long candidates, long low, long high) {
        return new long[] {index, candidates, low, high};
    }

    private static void promise16Forms() {
        VersionedRows x = sixRows(Steps.withIndexes(Steps.NUMBER));
        planOf(x, "E < 12", of(0, 0, 3, 12, 7, 0), plan(0, 2, LEAST, 11));
        planOf(x, "12 < E", of(3, 12, 0, 0, 7, 0), plan(0, 3, 13, GREATEST));
        planOf(x, "E = 12", of(0, 0, 3, 12, 8, 0), plan(0, 1, 12, 12));
        planOf(x, "12 = E", of(3, 12, 0, 0, 8, 0), plan(0, 1, 12, 12));
        planOf(x, "E = -1", of(0, 0, 3, -1, 8, 0), plan(0, 0, -1, -1));
        planOf(x, "with an n that does not count", of(0, 7, 3, 12, 7, 8), plan(0, 2, LEAST, 11));

        x = new VersionedRows();
        Steps.sayAll(x, 0, 0, 3, 1, 4, 0);
        x.index();
        sixRows(x);
        planOf(x, "NUMBER + 1 < 13", of(0, 0, 3, 1, 4, 0, 3, 13, 7, 0), plan(0, 2, LEAST, 12));
        planOf(x, "NUMBER + 2 < 13", of(0, 0, 3, 2, 4, 0, 3, 13, 7, 0), plan(-1, 6, 0, 0));
        planOf(x, "1 + NUMBER < 13", of(3, 1, 0, 0, 4, 0, 3, 13, 7, 0), plan(-1, 6, 0, 0));
        planOf(x, "NUMBER - 1 < 13", of(0, 0, 3, 1, 5, 0, 3, 13, 7, 0), plan(-1, 6, 0, 0));
        planOf(x, "FLAG + 1 < 13", of(1, 0, 3, 1, 4, 0, 3, 13, 7, 0), plan(-1, 6, 0, 0));
        planOf(x, "NUMBER < 13", of(0, 0, 3, 13, 7, 0), plan(-1, 6, 0, 0));
    }

    private static void promise16NotOfAForm() {
        VersionedRows x = sixRows(Steps.withIndexes(Steps.NUMBER));
        planOf(x, "NOT", of(0, 0, 3, 12, 7, 0, 11, 0), plan(-1, 6, 0, 0));
        planOf(x, "OR", of(0, 0, 3, 12, 7, 0, 0, 0, 3, 15, 8, 0, 10, 0), plan(-1, 6, 0, 0));
        planOf(x, "NOT NOT", of(0, 0, 3, 12, 7, 0, 11, 0, 11, 0), plan(-1, 6, 0, 0));
        planOf(x, "STARTS", of(12, 729), plan(-1, 6, 0, 0));
        planOf(x, "E < FLAG", of(0, 0, 1, 0, 7, 0), plan(-1, 6, 0, 0));
        planOf(x, "E < 6 + 6", of(0, 0, 3, 6, 3, 6, 4, 0, 7, 0), plan(-1, 6, 0, 0));
        planOf(x, "E < E", of(0, 0, 0, 0, 7, 0), plan(-1, 6, 0, 0));
        planOf(x, "NOT of an AND", of(0, 0, 3, 12, 7, 0, 12, 0, 9, 0, 11, 0), plan(-1, 6, 0, 0));
        planOf(x, "OR within an AND", of(0, 0, 3, 12, 7, 0, 12, 0, 10, 0, 12, 0, 9, 0), plan(-1, 6, 0, 0));
    }

    private static void promise16Conjuncts() {
        VersionedRows x = sixRows(Steps.withIndexes(Steps.NUMBER));
        int[] three = {3, 10, 0, 0, 7, 0, 0, 0, 3, 15, 7, 0, 9, 0, 0, 0, 3, 14, 7, 0, 9, 0};
        planOf(x, "10 < E and E < 15 and E < 14", three, plan(0, 3, 11, 13));
        int[] right = {12, 0, 3, 10, 0, 0, 7, 0, 0, 0, 3, 13, 7, 0, 9, 0, 9, 0};
        planOf(x, "STARTS and (10 < E and E < 13)", right, plan(0, 2, 11, 12));
        int[] weaker = {3, 12, 0, 0, 7, 0, 3, 10, 0, 0, 7, 0, 9, 0};
        planOf(x, "12 < E and 10 < E", weaker, plan(0, 3, 13, GREATEST));
        int[] both = {0, 0, 3, 12, 8, 0, 0, 0, 3, 14, 8, 0, 9, 0};
        planOf(x, "E = 12 and E = 14", both, plan(0, 0, 14, 12));
        int[] beside = {1, 0, 3, 0, 8, 0, 0, 0, 3, 13, 7, 0, 9, 0};
        planOf(x, "FLAG = 0 and E < 13", beside, plan(0, 3, LEAST, 12));
        Steps.result(DUE, "FLAG = 0 and E < 13", x, 0, 2);
    }

    private static void promise16LeastWidth() {
        VersionedRows x = sixRows(Steps.withIndexes(Steps.NUMBER, Steps.FLAG, Steps.NUMBER));
        planOf(x, "the least of the same", of(0, 0, 3, 12, 7, 0), plan(0, 2, LEAST, 11));
        planOf(x, "the second", of(1, 0, 3, 1, 8, 0), plan(1, 3, 1, 1));
        int[] narrower = {0, 0, 3, 12, 7, 0, 1, 0, 3, 1, 8, 0, 9, 0};
        planOf(x, "the narrower is the second", narrower, plan(1, 3, 1, 1));
        int[] same = {0, 0, 3, 12, 8, 0, 1, 0, 3, 1, 8, 0, 9, 0};
        planOf(x, "the same width", same, plan(0, 1, 12, 12));
        int[] below = {0, 0, 3, 12, 8, 0, 1, 0, 3, 0, 7, 0, 3, 0, 1, 0, 7, 0, 9, 0, 9, 0};
        planOf(x, "a width below 0", below, plan(1, 0, 1, -1));

        x = sixRows(Steps.withIndexes(Steps.FLAG, Steps.NAME, Steps.NUMBER));
        planOf(x, "the third", of(0, 0, 3, 12, 7, 0), plan(2, 2, LEAST, 11));
        planOf(x, "none", of(0, 0, 1, 0, 4, 0, 3, 12, 7, 0), plan(-1, 6, 0, 0));
    }

    private static void promise16Longs() {
        VersionedRows x = sixRows(Steps.withIndexes(Steps.NUMBER, Steps.FLAG));
        planOf(x, "E < the least", of(0, 0, 3, Integer.MIN_VALUE, 7, 0), plan(0, 0, LEAST, LEAST - 1));
        planOf(x, "the greatest < E", of(3, Integer.MAX_VALUE, 0, 0, 7, 0), plan(0, 0, GREATEST + 1, GREATEST));
        planOf(x, "E < the greatest", of(0, 0, 3, Integer.MAX_VALUE, 7, 0), plan(0, 6, LEAST, GREATEST - 1));
        planOf(x, "the least < E", of(3, Integer.MIN_VALUE, 0, 0, 7, 0), plan(0, 6, LEAST + 1, GREATEST));
        int[] wide = {0, 0, 3, Integer.MAX_VALUE, 7, 0, 1, 0, 3, 0, 7, 0, 9, 0};
        planOf(x, "a wide one and a half", wide, plan(1, 0, LEAST, -1));
        int[] empty = {3, Integer.MAX_VALUE, 0, 0, 7, 0, 0, 0, 3, Integer.MIN_VALUE, 7, 0, 9, 0};
        planOf(x, "the greatest < E < the least", empty, plan(0, 0, GREATEST + 1, LEAST - 1));
    }

    private static void promise16ConstIndex() {
        VersionedRows x = new VersionedRows();
        x.say(Steps.CONST, 5);
        x.index();
        sixRows(x);
        planOf(x, "5 < 5", of(3, 5, 3, 5, 7, 0), plan(0, 0, 6, 4));
        planOf(x, "5 = 5", of(3, 5, 3, 5, 8, 0), plan(0, 6, 5, 5));
        planOf(x, "5 < 9", of(3, 5, 3, 9, 7, 0), plan(0, 6, LEAST, 8));
        planOf(x, "3 < 5", of(3, 3, 3, 5, 7, 0), plan(0, 6, 4, GREATEST));
        planOf(x, "5 = 9", of(3, 5, 3, 9, 8, 0), plan(0, 0, 9, 9));
        planOf(x, "9 = 5", of(3, 9, 3, 5, 8, 0), plan(0, 0, 9, 9));
        planOf(x, "9 = 9", of(3, 9, 3, 9, 8, 0), plan(-1, 6, 0, 0));
    }

    private static void promise16Candidates() {
        VersionedRows x = sixRows(Steps.withIndexes(Steps.FLAG));
        planOf(x, "FLAG = 1", of(1, 0, 3, 1, 8, 0), plan(0, 3, 1, 1));
        int t = x.begin();
        x.write(t, 0, 0, 1, 0);
        x.remove(t, 1);
        x.write(t, 20, 0, 1, 0);
        x.write(t, 21, 0, 0, 0);
        x.commit(t);
        planOf(x, "as of the begin", of(1, 0, 3, 1, 8, 0), plan(0, 3, 1, 1));
        x.commit(1);
        int late = x.begin();
        Steps.sayAll(x, 1, 0, 3, 1, 8, 0);
        DUE.is("FLAG = 1 later", 4, x.query(late));
        Steps.plan(DUE, "FLAG = 1 later", x, 0, 4, 1, 1);
        Steps.result(DUE, "FLAG = 1 later", x, 0, 3, 5, 20);
        x.say(Steps.STARTS, 0);
        DUE.is("all later", 7, x.query(late));
        Steps.plan(DUE, "all later", x, -1, 7, 0, 0);
        x.flush();
        x.compact();
        x.compact();
        Steps.sayAll(x, 1, 0, 3, 1, 7, 0);
        DUE.is("FLAG < 1 behind merges", 3, x.query(late));
        Steps.plan(DUE, "FLAG < 1 behind merges", x, 0, 3, LEAST, 0);
    }

    private static void promise16WrongInputs() {
        VersionedRows x = sixRows(Steps.withIndexes(Steps.NUMBER));
        int[] wrong = {-1, 4, Integer.MAX_VALUE, Integer.MIN_VALUE};
        for (int what : wrong) {
            DUE.is("plan(" + what + ") before a query", -1, x.plan(what));
        }
        planOf(x, "E < 12", of(0, 0, 3, 12, 7, 0), plan(0, 2, LEAST, 11));
        for (int what : wrong) {
            DUE.is("plan(" + what + ")", -1, x.plan(what));
        }
    }
}
