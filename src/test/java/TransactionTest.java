/** Promises 4 to 7, 11 and 17: begin, read, write, remove, abort, state. */
public final class TransactionTest {
    private static final Due DUE = new Due();

    public static void main(String[] args) {
        promise4FiveOpen();
        promise4SixtyInAll();
        promise5ReadsAsOfTheBegin();
        promise5OwnWrites();
        promise5WrongInputs();
        promise6WrongInputs();
        promise6LatestCounts();
        promise7Remove();
        promise11Abort();
        promise17States();
        DUE.end("TransactionTest");
    }

    private static void promise4FiveOpen() {
        VersionedRows x = new VersionedRows();
        for (int t = 0; t < 5; t++) {
            DUE.is("begin " + t, t, x.begin());
        }
        DUE.is("a sixth open one", -1, x.begin());
        DUE.is("there is none", -1, x.state(5));
        x.commit(2);
        DUE.is("after a commit", 5, x.begin());
        DUE.is("again five are open", -1, x.begin());
        x.crash();
        for (int t = 6; t < 11; t++) {
            DUE.is("after a crash", t, x.begin());
        }
        DUE.is("five after a crash", -1, x.begin());
    }

    private static void promise4SixtyInAll() {
        VersionedRows x = new VersionedRows();
        for (int t = 0; t < 60; t++) {
            DUE.is("begin " + t, t, x.begin());
            DUE.is("abort " + t, true, x.abort(t));
        }
        DUE.is("a sixty-first", -1, x.begin());
        DUE.is("state(59)", 4, x.state(59));
        DUE.is("state(60)", -1, x.state(60));
        DUE.is("commit(60)", -1, x.commit(60));
    }

    private static void promise5ReadsAsOfTheBegin() {
        VersionedRows x = new VersionedRows();
        int before = x.begin();
        int writer = x.begin();
        x.write(writer, 7, -1, 1, 19682);
        DUE.is("not seen before its commit", 0, x.read(before, 7, 3));
        x.commit(writer);
        DUE.is("not seen by one that began before", 0, x.read(before, 7, 3));
        DUE.is("no number", 0, x.read(before, 7, 0));
        int after = x.begin();
        DUE.is("number", -1, x.read(after, 7, 0));
        DUE.is("flag", 1, x.read(after, 7, 1));
        DUE.is("name", 19682, x.read(after, 7, 2));
        DUE.is("is there", 1, x.read(after, 7, 3));
        DUE.is("another key", 0, x.read(after, 6, 3));
        Steps.commitRows(x, 7, 7, 100);
        DUE.is("the old version", -1, x.read(after, 7, 0));
        x.flush();
        x.compact();
        x.compact();
        DUE.is("the old version on level 2", -1, x.read(after, 7, 0));
        DUE.is("the new version", 107, x.read(x.begin(), 7, 0));
        Steps.commitRemoval(x, 7);
        int last = x.begin();
        DUE.is("removed", 0, x.read(last, 7, 3));
        DUE.is("no number of a removed one", 0, x.read(last, 7, 0));
        DUE.is("there for the one before", -1, x.read(after, 7, 0));
    }

    private static void promise5OwnWrites() {
        VersionedRows x = new VersionedRows();
        Steps.commitRows(x, 0, 3, 10);
        int t = x.begin();
        x.write(t, 0, 99, 0, 729);
        x.remove(t, 1);
        x.write(t, 31, 31, 1, 0);
        DUE.is("own number", 99, x.read(t, 0, 0));
        DUE.is("own flag", 0, x.read(t, 0, 1));
        DUE.is("own name", 729, x.read(t, 0, 2));
        DUE.is("own removal", 0, x.read(t, 1, 3));
        DUE.is("own removal's flag", 0, x.read(t, 1, 1));
        DUE.is("not written", 12, x.read(t, 2, 0));
        DUE.is("own new row", 1, x.read(t, 31, 3));
        DUE.is("another one's", 10, x.read(x.begin(), 0, 0));
    }

    private static void promise5WrongInputs() {
        VersionedRows x = new VersionedRows();
        DUE.is("none yet", -1, x.read(0, 0, 0));
        int t = x.begin();
        x.write(t, 0, 5, 1, 0);
        x.write(t, 31, 5, 1, 0);
        int[][] wrong = {{-1, 0, 0}, {1, 0, 0}, {t, -1, 0}, {t, 32, 0}, {t, 0, -1}, {t, 0, 4},
            {Integer.MAX_VALUE, 0, 0}, {t, Integer.MIN_VALUE, 3}, {t, 5, Integer.MAX_VALUE}};
        for (int[] a : wrong) {
            DUE.is("read(" + a[0] + ", " + a[1] + ", " + a[2] + ")", -1, x.read(a[0], a[1], a[2]));
        }
        DUE.is("key 31", 5, x.read(t, 31, 0));
        x.commit(t);
        DUE.is("a committed one", -1, x.read(t, 0, 0));
    }

    private static void promise6WrongInputs() {
        VersionedRows x = new VersionedRows();
        DUE.is("none yet", false, x.write(0, 0, 0, 0, 0));
        int t = x.begin();
        int[][] wrong = {{-1, 0, 0, 0, 0}, {1, 0, 0, 0, 0}, {t, -1, 0, 0, 0}, {t, 32, 0, 0, 0}, {t, 0, 0, -1, 0},
            {t, 0, 0, 2, 0}, {t, 0, 0, 0, -1}, {t, 0, 0, 0, 19683}, {t, 0, 0, 0, 1}, {t, 0, 0, 0, 27},
            {t, 0, 0, 0, 28}, {t, 0, 0, 0, 730}, {t, 0, 0, 0, Integer.MIN_VALUE}};
        for (int[] a : wrong) {
            DUE.is("write with " + java.util.Arrays.toString(a), false, x.write(a[0], a[1], a[2], a[3], a[4]));
        }
        DUE.is("nothing was written", 0, x.read(t, 0, 3));
        DUE.is("so it commits at its begin", 0, x.commit(t));
        DUE.is("a committed one", false, x.write(t, 0, 0, 0, 0));
        DUE.is("no batch", 0, x.about(2));
    }

    private static void promise6LatestCounts() {
        VersionedRows x = new VersionedRows();
        int t = x.begin();
        DUE.is("write", true, x.write(t, 31, Integer.MIN_VALUE, 1, 757));
        DUE.is("write again", true, x.write(t, 31, Integer.MAX_VALUE, 0, 0));
        DUE.is("a refused one in between", false, x.write(t, 31, 3, 2, 0));
        DUE.is("commit", 1, x.commit(t));
        DUE.is("one entry", 1, x.about(2));
        int r = x.begin();
        DUE.is("the latest number", Integer.MAX_VALUE, x.read(r, 31, 0));
        DUE.is("the latest flag", 0, x.read(r, 31, 1));
        x.remove(r, 31);
        x.write(r, 31, 8, 0, 0);
        DUE.is("written after removal", 8, x.read(r, 31, 0));
        x.remove(r, 31);
        DUE.is("removed after writing", 0, x.read(r, 31, 3));
        x.commit(r);
        DUE.is("the removal was committed", 0, x.read(x.begin(), 31, 3));
    }

    private static void promise7Remove() {
        VersionedRows x = Steps.withIndexes(Steps.NUMBER);
        DUE.is("none yet", false, x.remove(0, 0));
        int t = x.begin();
        DUE.is("key -1", false, x.remove(t, -1));
        DUE.is("key 32", false, x.remove(t, 32));
        DUE.is("t -1", false, x.remove(-1, 0));
        DUE.is("t 1", false, x.remove(1, 0));
        DUE.is("what is not there", true, x.remove(t, 0));
        DUE.is("key 31", true, x.remove(t, 31));
        DUE.is("a batch of dead ones", 1, x.commit(t));
        DUE.is("without entries of the index", 2, x.about(2));
        DUE.is("a committed one", false, x.remove(t, 0));
        Steps.commitRows(x, 4, 4, 0);
        Steps.sizes(DUE, "a row", x, 2, 4, 0);
        Steps.commitRemoval(x, 4);
        Steps.sizes(DUE, "its removal", x, 3, 6, 0);
        DUE.is("it is gone", 0, x.read(x.begin(), 4, 3));
    }

    private static void promise11Abort() {
        VersionedRows x = new VersionedRows();
        DUE.is("none yet", false, x.abort(0));
        int t = x.begin();
        x.write(t, 0, 1, 0, 0);
        DUE.is("abort(-1)", false, x.abort(-1));
        DUE.is("abort(1)", false, x.abort(1));
        DUE.is("abort", true, x.abort(t));
        DUE.is("its state", 4, x.state(t));
        DUE.is("abort again", false, x.abort(t));
        DUE.is("commit of it", -1, x.commit(t));
        DUE.is("write of it", false, x.write(t, 0, 1, 0, 0));
        Steps.sizes(DUE, "nothing came of it", x, 0, 0, 0);
        int open = x.begin();
        Steps.commitRows(x, 0, 0, 0);
        DUE.is("horizon with an open one", 0, x.about(1));
        x.abort(open);
        DUE.is("horizon behind its abort", 1, x.about(1));
        DUE.is("a committed one", false, x.abort(2));
        DUE.is("stays committed", 2, x.state(2));
    }

    private static void promise17States() {
        VersionedRows x = new VersionedRows();
        DUE.is("none", -1, x.state(0));
        for (int t = 0; t < 5; t++) {
            x.begin();
            x.write(t, 0, t, 0, 0);
        }
        DUE.is("open", 1, x.state(0));
        x.commit(0);
        x.commit(1);
        x.abort(2);
        x.tear(3, 0);
        DUE.is("committed", 2, x.state(0));
        DUE.is("beaten", 3, x.state(1));
        DUE.is("aborted", 4, x.state(2));
        DUE.is("a tear of one that would be beaten changes nothing", 1, x.state(3));
        x.crash();
        DUE.is("lost", 5, x.state(3));
        DUE.is("lost, too", 5, x.state(4));
        DUE.is("still committed", 2, x.state(0));
        DUE.is("still beaten", 3, x.state(1));
        DUE.is("still aborted", 4, x.state(2));
        DUE.is("state(5)", -1, x.state(5));
        DUE.is("state(-1)", -1, x.state(-1));
        DUE.is("state of the least int", -1, x.state(Integer.MIN_VALUE));
    }
}
