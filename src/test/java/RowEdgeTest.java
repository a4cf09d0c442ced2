import java.util.HashSet;
import java.util.Set;

/** The edges that the document's terms name for rows, for what is seen of them, and for transactions. */
public final class RowEdgeTest {
    private static final Due DUE = new Due();
    private static final int[] NUMBERS = {
        Integer.MIN_VALUE, Integer.MIN_VALUE + 1, -1, 0, 1, Integer.MAX_VALUE - 1, Integer.MAX_VALUE};

    public static void main(String[] args) {
        keysFrom0To31();
        numbersAreAllInts();
        numberMayBeMinusOne();
        flagsAre0And1();
        namesAreThoseOfTexts();
        noRowHasFieldsOf0();
        seenIsTheGreatestStampUpToTheBegin();
        deadHidesTheLiveBelow();
        beginIsTheLastStamp();
        nothingIsWrittenWhereNothingIs();
        fiveMayBeOpen();
        sixtyMayBegin();
        call512IsAnsweredYet();
        DUE.end("RowEdgeTest");
    }

    /** "ROWS have a key 0 .. 31". */
    private static void keysFrom0To31() {
        VersionedRows x = new VersionedRows();
        int t = x.begin();
        for (int key = 0; key < 32; key++) {
            DUE.is("write key " + key, true, x.write(t, key, 100 + key, 0, 0));
        }
        DUE.is("commit of all keys", 1, x.commit(t));
        Steps.file(DUE, x, 0, 0, 1, 32, 0, 0, 0, 0, 0, 31);
        t = x.begin();
        for (int key = 0; key < 32; key++) {
            DUE.is("read key " + key, 100 + key, x.read(t, key, 0));
            DUE.is("remove key " + key, true, x.remove(t, key));
            DUE.is("removed key " + key, 0, x.read(t, key, 3));
        }
        DUE.is("commit of the removals", 2, x.commit(t));
        t = x.begin();
        x.say(Steps.STARTS, 0);
        DUE.is("none is left", 0, x.query(t));
    }

    /** "a NUMBER (an int)". */
    private static void numbersAreAllInts() {
        VersionedRows x = new VersionedRows();
        int t = x.begin();
        for (int key = 0; key < NUMBERS.length; key++) {
            DUE.is("write " + NUMBERS[key], true, x.write(t, key, NUMBERS[key], 0, 0));
        }
        hasNumbers("own writes", x, t);
        x.commit(t);
        t = x.begin();
        hasNumbers("memory", x, t);
        x.flush();
        hasNumbers("level 0", x, t);
        x.compact();
        hasNumbers("level 1", x, t);
        x.compact();
        hasNumbers("level 2", x, t);
    }

    private static void hasNumbers(String where, VersionedRows x, int t) {
        for (int key = 0; key < NUMBERS.length; key++) {
            DUE.is(where + ": number of key " + key, NUMBERS[key], x.read(t, key, 0));
        }
    }

    /** "(A number may be -1, too.)" */
    private static void numberMayBeMinusOne() {
        VersionedRows x = new VersionedRows();
        int t = x.begin();
        x.write(t, 5, -1, 0, 0);
        DUE.is("the number -1", -1, x.read(t, 5, 0));
        DUE.is("of a row that is there", 1, x.read(t, 5, 3));
        DUE.is("key 6 has none", 0, x.read(t, 6, 0));
    }

    /** "a FLAG (0 or 1)". */
    private static void flagsAre0And1() {
        VersionedRows x = new VersionedRows();
        int t = x.begin();
        for (int flag = -2; flag <= 3; flag++) {
            DUE.is("write flag " + flag, flag == 0 || flag == 1, x.write(t, flag + 2, 0, flag, 0));
            DUE.is("is there with flag " + flag, flag == 0 || flag == 1 ? 1 : 0, x.read(t, flag + 2, 3));
        }
        DUE.is("flag 0", 0, x.read(t, 2, 1));
        DUE.is("flag 1", 1, x.read(t, 3, 1));
    }

    private static Set<Integer> allNames() {
        Set<Integer> names = new HashSet<>();
        names.add(0);
        for (int a = 1; a <= 26; a++) {
            names.add(729 * a);
            for (int b = 1; b <= 26; b++) {
                names.add(729 * a + 27 * b);
                for (int c = 1; c <= 26; c++) {
                    names.add(729 * a + 27 * b + c);
                }
            }
        }
        return names;
    }

    /** "An int is a name if its three digits to the base 27 are like that: 0 .. 19682, ..". */
    private static void namesAreThoseOfTexts() {
        Set<Integer> names = allNames();
        DUE.is("how many names", 1 + 26 + 26 * 26 + 26 * 26 * 26, names.size());
        for (int n = -800; n <= 20500; n++) {
            VersionedRows x = new VersionedRows();
            int t = x.begin();
            boolean isName = names.contains(n);
            DUE.is("write name " + n, isName, x.write(t, 0, 0, 0, n));
            DUE.is("read name " + n, isName ? n : 0, x.read(t, 0, 2));
            DUE.is("STARTS " + n, isName, x.say(Steps.STARTS, n));
            DUE.is("on the pile", isName ? 1 : 0, x.about(4));
        }
    }

    /** "0 for the fields 0 to 2 when there is none." */
    private static void noRowHasFieldsOf0() {
        VersionedRows x = new VersionedRows();
        Steps.commitRows(x, 3, 3, 50);
        int t = x.begin();
        x.remove(t, 3);
        for (int field = 0; field <= 3; field++) {
            DUE.is("never written, field " + field, 0, x.read(t, 4, field));
            DUE.is("removed by itself, field " + field, 0, x.read(t, 3, field));
        }
        x.commit(t);
        t = x.begin();
        for (int field = 0; field <= 3; field++) {
            DUE.is("removed, field " + field, 0, x.read(t, 3, field));
        }
    }

    /** "an entry is SEEN at a stamp s when it has the greatest stamp that is at most s". */
    private static void seenIsTheGreatestStampUpToTheBegin() {
        VersionedRows x = new VersionedRows();
        int[] readers = new int[4];
        readers[0] = x.begin();
        Steps.commitRows(x, 4, 4, 6);
        readers[1] = x.begin();
        Steps.commitRemoval(x, 4);
        readers[2] = x.begin();
        Steps.commitRows(x, 4, 4, 26);
        readers[3] = x.begin();
        String[] places = {"memory", "level 0", "level 1", "level 2"};
        for (String where : places) {
            DUE.is(where + ": at stamp 0", 0, x.read(readers[0], 4, 3));
            DUE.is(where + ": at stamp 1", 10, x.read(readers[1], 4, 0));
            DUE.is(where + ": at stamp 2", 0, x.read(readers[2], 4, 3));
            DUE.is(where + ": at stamp 3", 30, x.read(readers[3], 4, 0));
            if (where.equals("memory")) {
                x.flush();
            } else {
                x.compact();
            }
        }
    }

    /** "what is there at s are the entries seen that are live": a dead one hides those below it. */
    private static void deadHidesTheLiveBelow() {
        VersionedRows x = Steps.withIndexes(Steps.NUMBER);
        Steps.commitRows(x, 7, 7, 0);
        x.flush();
        x.compact();
        x.compact();
        Steps.commitRemoval(x, 7);
        for (String where : new String[] {"memory", "level 0", "level 1"}) {
            int t = x.begin();
            DUE.is("dead in " + where, 0, x.read(t, 7, 3));
            Steps.sayAll(x, Steps.NUMBER, 0, Steps.CONST, 7, Steps.SAME, 0);
            DUE.is("no result over " + where, 0, x.query(t));
            Steps.plan(DUE, "dead in " + where, x, 0, 0, 7, 7);
            x.abort(t);
            if (where.equals("memory")) {
                x.flush();
            } else {
                x.compact();
            }
        }
        Steps.sizes(DUE, "with what it hides", x, 2, 0, 0);
    }

    /** "a BEGIN: the LAST STAMP (0 at first) when it began". */
    private static void beginIsTheLastStamp() {
        VersionedRows x = new VersionedRows();
        int first = x.begin();
        DUE.is("stamp 1", 1, Steps.commitRows(x, 0, 0, 0));
        int second = x.begin();
        DUE.is("horizon with both", 0, x.about(1));
        DUE.is("the first one's begin", 0, x.commit(first));
        DUE.is("horizon with the second", 1, x.about(1));
        DUE.is("stamp 2", 2, Steps.commitRows(x, 0, 0, 0));
        DUE.is("the second one's begin", 1, x.commit(second));
        DUE.is("horizon with none", 2, x.about(1));
    }

    /** "Transaction t writes nothing for a key (also if none is there)." */
    private static void nothingIsWrittenWhereNothingIs() {
        VersionedRows x = Steps.withIndexes(Steps.NUMBER);
        int t = x.begin();
        DUE.is("remove", true, x.remove(t, 9));
        DUE.is("it counts as a write", 1, x.commit(t));
        Steps.sizes(DUE, "one dead entry", x, 1, 1, 0);
        DUE.is("flush", 1, x.flush());
        Steps.file(DUE, x, 0, 0, 1, 1, 0, 0, 9, 0, 0, 9);
    }

    /** "at most 5 are open": each way to end one makes room for another. */
    private static void fiveMayBeOpen() {
        VersionedRows x = new VersionedRows();
        for (int t = 0; t < 5; t++) {
            DUE.is("begin", t, x.begin());
            x.write(t, 0, t, 0, 0);
        }
        DUE.is("a sixth", -1, x.begin());
        x.abort(0);
        DUE.is("behind an abort", 5, x.begin());
        DUE.is("a sixth again", -1, x.begin());
        x.commit(1);
        DUE.is("behind a commit", 6, x.begin());
        DUE.is("a sixth once more", -1, x.begin());
        DUE.is("beaten", VersionedRows.BEATEN, x.commit(2));
        DUE.is("behind one that is beaten", 7, x.begin());
        DUE.is("a sixth still", -1, x.begin());
        x.commit(5);
        DUE.is("behind one without writes", 8, x.begin());
        DUE.is("all are lost", 5, x.crash());
        for (int t = 9; t < 14; t++) {
            DUE.is("behind a crash", t, x.begin());
        }
        DUE.is("a sixth in the end", -1, x.begin());
    }

    /** "at most 60": those that were refused do not count, those that ended do. */
    private static void sixtyMayBegin() {
        VersionedRows x = new VersionedRows();
        for (int t = 0; t < 55; t++) {
            x.begin();
            x.commit(t);
        }
        for (int t = 55; t < 60; t++) {
            DUE.is("begin " + t, t, x.begin());
        }
        DUE.is("five are open, and there were 60", -1, x.begin());
        x.crash();
        DUE.is("none is open, but there were 60", -1, x.begin());
        DUE.is("the last one", 5, x.state(59));
        DUE.is("none behind it", -1, x.state(60));
    }

    /** "An object is used for at most 512 calls": the last of them is answered as all others. */
    private static void call512IsAnsweredYet() {
        Run run = new Run();
        int calls = 0;
        for (int i = 0; i < 17; i++) {
            run.committed(0, 27, 1000 * i);
            calls += 30;
        }
        int t = (int) run.call("begin");
        DUE.is("call 511", 17, t);
        DUE.is("so many calls", 511, calls + 1);
        DUE.is("call 512", 16003, run.call("read", t, 3, 0));
    }
}
