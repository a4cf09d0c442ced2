/** Promises 9, 10 and 14: commit, tear, crash. */
public final class CommitTest {
    private static final Due DUE = new Due();

    public static void main(String[] args) {
        promise9Stamps();
        promise9FirstWins();
        promise9BeatenBehindMerges();
        promise9IndexEntries();
        promise9FlushesAtTwenty();
        promise9MergesOverfullLevels();
        promise9OverfullOnlyBehindAFlush();
        promise9HorizonWithoutItself();
        promise9Full();
        promise10Tear();
        promise10TearCountsIndexEntries();
        promise10TearDoesNotFlush();
        promise10Refused();
        promise14Crash();
        DUE.end("CommitTest");
    }

    private static void promise9Stamps() {
        VersionedRows x = new VersionedRows();
        DUE.is("none yet", -1, x.commit(0));
        DUE.is("without writes at first", 0, x.commit(x.begin()));
        DUE.is("first stamp", 1, Steps.commitRows(x, 0, 0, 0));
        DUE.is("second stamp", 2, Steps.commitRows(x, 1, 1, 0));
        int reader = x.begin();
        DUE.is("third stamp", 3, Steps.commitRows(x, 2, 2, 0));
        DUE.is("without writes: its begin", 2, x.commit(reader));
        DUE.is("it is committed", 2, x.state(reader));
        DUE.is("the last stamp stays", 3, x.about(0));
        DUE.is("a second time", -1, x.commit(reader));
        DUE.is("commit(-1)", -1, x.commit(-1));
        DUE.is("commit(5)", -1, x.commit(5));
        DUE.is("commit of the greatest int", -1, x.commit(Integer.MAX_VALUE));
    }

    private static void promise9FirstWins() {
        VersionedRows x = new VersionedRows();
        Steps.commitRows(x, 3, 4, 0);
        int first = x.begin();
        int second = x.begin();
        int removing = x.begin();
        int elsewhere = x.begin();
        x.write(first, 3, 1, 0, 0);
        x.write(second, 3, 2, 0, 0);
        x.write(second, 9, 2, 0, 0);
        x.remove(removing, 3);
        x.write(elsewhere, 4, 4, 0, 0);
        DUE.is("the first", 2, x.commit(first));
        DUE.is("the second", VersionedRows.BEATEN, x.commit(second));
        DUE.is("its state", 3, x.state(second));
        DUE.is("once more", -1, x.commit(second));
        DUE.is("a removal", VersionedRows.BEATEN, x.commit(removing));
        DUE.is("of another key", 3, x.commit(elsewhere));
        int last = x.begin();
        DUE.is("the first one's row", 1, x.read(last, 3, 0));
        DUE.is("nothing of the second", 0, x.read(last, 9, 3));

        int late = x.begin();
        x.write(late, 3, 7, 0, 0);
        x.write(late, 20, 7, 0, 0);
        Steps.commitRemoval(x, 20);
        DUE.is("beaten by a removal of nothing", VersionedRows.BEATEN, x.commit(late));
        Steps.sizes(DUE, "after all", x, 4, 5, 0);
    }

    private static void promise9BeatenBehindMerges() {
        VersionedRows x = new VersionedRows();
        int old = x.begin();
        x.write(old, 5, 1, 0, 0);
        Steps.commitRows(x, 5, 5, 0);
        Steps.commitRemoval(x, 5);
        x.flush();
        x.compact();
        DUE.is("nothing can be left out", 0, x.compact());
        DUE.is("beaten by an entry on level 2", VersionedRows.BEATEN, x.commit(old));
    }

    private static void promise9IndexEntries() {
        VersionedRows x = Steps.withIndexes(Steps.NUMBER, Steps.FLAG, Steps.NAME);
        int t = x.begin();
        x.write(t, 2, 5, 1, 729);
        x.commit(t);
        Steps.sizes(DUE, "a new row", x, 1, 4, 0);
        t = x.begin();
        x.write(t, 2, 5, 1, 729);
        x.commit(t);
        Steps.sizes(DUE, "the same row", x, 2, 5, 0);
        t = x.begin();
        x.write(t, 2, 6, 1, 756);
        x.commit(t);
        Steps.sizes(DUE, "two values are others", x, 3, 10, 0);
        Steps.commitRemoval(x, 2);
        Steps.sizes(DUE, "removed", x, 4, 14, 0);
        Steps.commitRemoval(x, 2);
        Steps.sizes(DUE, "removed again", x, 5, 15, 0);
        t = x.begin();
        x.write(t, 2, 6, 1, 756);
        x.commit(t);
        Steps.sizes(DUE, "new again", x, 6, 19, 0);
        x.flush();
        Steps.file(DUE, x, 0, 0, 1, 19, 0, 0, 2, 3, 756, 2);
    }

    private static void promise9FlushesAtTwenty() {
        VersionedRows x = new VersionedRows();
        Steps.commitRows(x, 0, 18, 0);
        Steps.sizes(DUE, "19 entries", x, 1, 19, 0);
        Steps.commitRows(x, 0, 0, 0);
        Steps.sizes(DUE, "20 entries", x, 2, 0, 20);
        Steps.file(DUE, x, 0, 0, 1, 20, 0, 0, 0, 0, 0, 18);
        Steps.commitRows(x, 0, 18, 0);
        x.commit(x.begin());
        Steps.sizes(DUE, "an empty commit", x, 3, 19, 20);
        Steps.commitRows(x, 0, 31, 0);
        Steps.sizes(DUE, "51 entries", x, 4, 0, 71);
        Steps.levels(DUE, "two files", x, 2, 0, 0);
    }

    private static void promise9MergesOverfullLevels() {
        VersionedRows x = new VersionedRows();
        int old = x.begin();
        Steps.commitRows(x, 0, 19, 0);
        Steps.commitRows(x, 0, 19, 100);
        Steps.levels(DUE, "two flushes", x, 2, 0, 0);
        Steps.commitRows(x, 12, 31, 200);
        Steps.levels(DUE, "three flushes", x, 2, 2, 0);
        Steps.file(DUE, x, 1, 0, 4, 12, 0, 0, 0, 0, 0, 11);
        Steps.file(DUE, x, 1, 1, 5, 8, 0, 0, 12, 0, 0, 19);
        Steps.commitRows(x, 12, 31, 300);
        // files 2, 4 and 5 make 7, 8, 9 and 10 (12, 12, 12, 4 entries): that is one too many, 7 goes down
        Steps.levels(DUE, "four flushes", x, 2, 3, 1);
        Steps.file(DUE, x, 1, 0, 8, 12, 0, 0, 6, 0, 0, 11);
        Steps.file(DUE, x, 1, 1, 9, 12, 0, 0, 12, 0, 0, 17);
        Steps.file(DUE, x, 1, 2, 10, 4, 0, 0, 18, 0, 0, 19);
        Steps.file(DUE, x, 2, 0, 11, 12, 0, 0, 0, 0, 0, 5);
        Steps.sizes(DUE, "with an old one open", x, 4, 0, 80);
        DUE.is("the old one still reads", 0, x.read(old, 12, 3));
        DUE.is("a new one reads", 312, x.read(x.begin(), 12, 0));
    }

    private static void promise9OverfullOnlyBehindAFlush() {
        VersionedRows x = new VersionedRows();
        for (int i = 0; i < 4; i++) {
            Steps.commitRows(x, i, i, 0);
            x.flush();
        }
        Steps.levels(DUE, "flushed by hand", x, 4, 0, 0);
        Steps.commitRows(x, 9, 9, 0);
        Steps.levels(DUE, "a small commit", x, 4, 0, 0);
        Steps.commitRows(x, 10, 28, 0);
        Steps.levels(DUE, "a commit that flushes", x, 2, 3, 0);
        Steps.file(DUE, x, 0, 0, 4, 1, 0, 0, 3, 0, 0, 3);
        Steps.file(DUE, x, 0, 1, 5, 20, 0, 0, 9, 0, 0, 28);
        Steps.file(DUE, x, 1, 0, 6, 1, 0, 0, 0, 0, 0, 0);
        Steps.file(DUE, x, 1, 1, 7, 1, 0, 0, 1, 0, 0, 1);
        Steps.file(DUE, x, 1, 2, 8, 1, 0, 0, 2, 0, 0, 2);
    }

    private static void promise9HorizonWithoutItself() {
        VersionedRows x = new VersionedRows();
        Steps.commitRows(x, 0, 0, 0);
        x.flush();
        Steps.commitRows(x, 0, 0, 10);
        x.flush();
        x.compact();
        Steps.levels(DUE, "one on each", x, 1, 1, 0);
        int t = x.begin();
        for (int key = 1; key <= 20; key++) {
            x.write(t, key, key, 0, 0);
        }
        Steps.commitRows(x, 0, 0, 20);
        x.flush();
        DUE.is("horizon while it is open", 2, x.about(1));
        DUE.is("its commit", 4, x.commit(t));
        // files 2 and 3 (key 0, stamps 2 and 1) are merged: stamp 1 can be left out
        Steps.sizes(DUE, "merged", x, 4, 0, 22);
        Steps.levels(DUE, "merged", x, 2, 1, 0);
    }

    private static VersionedRows almostFull() {
        VersionedRows x = Steps.withIndexes(Steps.NUMBER, Steps.NUMBER, Steps.NUMBER);
        x.begin();
        Steps.commitRows(x, 0, 31, 100);
        Steps.commitRows(x, 0, 31, 200);
        Steps.commitRows(x, 0, 20, 300);
        return x;
    }

    private static void promise9Full() {
        VersionedRows x = almostFull();
        Steps.sizes(DUE, "128, 224 and 147", x, 3, 0, 499);
        int two = x.begin();
        x.write(two, 0, 300, 0, 0);
        x.write(two, 1, 301, 0, 0);
        DUE.is("501", VersionedRows.FULL, x.commit(two));
        DUE.is("it stays open", 1, x.state(two));
        Steps.sizes(DUE, "nothing happens", x, 3, 0, 499);
        DUE.is("500", 4, Steps.commitRows(x, 2, 2, 300));
        Steps.sizes(DUE, "500", x, 4, 1, 499);
        int more = x.begin();
        x.write(more, 31, 231, 0, 0);
        DUE.is("501 by one entry", VersionedRows.FULL, x.commit(more));
        DUE.is("again", VersionedRows.FULL, x.commit(more));
        DUE.is("no writes are never full", 4, x.commit(x.begin()));
        DUE.is("its writes stay", 301, x.read(two, 1, 0));
        DUE.is("the oldest one ends", true, x.abort(0));
        DUE.is("what nobody sees goes", true, x.compact() > 0);
        DUE.is("now there is room", 5, x.commit(two));
        DUE.is("and for the other", 6, x.commit(more));
    }

    private static void promise10Tear() {
        VersionedRows x = new VersionedRows();
        int other = x.begin();
        int t = x.begin();
        x.write(t, 1, 1, 0, 0);
        x.remove(t, 2);
        DUE.is("two of three pieces", 0, x.tear(t, 2));
        DUE.is("it is lost", 5, x.state(t));
        DUE.is("so is the other", 5, x.state(other));
        Steps.sizes(DUE, "nothing came of it", x, 0, 0, 0);
        t = x.begin();
        other = x.begin();
        x.write(t, 1, 1, 0, 0);
        x.remove(t, 2);
        DUE.is("three of three pieces", 1, x.tear(t, 3));
        DUE.is("it is committed", 2, x.state(t));
        DUE.is("the other is lost", 5, x.state(other));
        Steps.sizes(DUE, "its batch is there", x, 1, 2, 0);
        t = x.begin();
        x.write(t, 1, 4, 0, 0);
        DUE.is("far more pieces", 1, x.tear(t, Integer.MAX_VALUE));
        t = x.begin();
        DUE.is("its row", 4, x.read(t, 1, 0));
        x.remove(t, 1);
        DUE.is("no piece at all", 0, x.tear(t, 0));
        DUE.is("the row is there still", 4, x.read(x.begin(), 1, 0));
        Steps.sizes(DUE, "in the end", x, 2, 3, 0);
    }

    private static void promise10TearCountsIndexEntries() {
        VersionedRows x = Steps.withIndexes(Steps.NUMBER, Steps.FLAG);
        Steps.commitRows(x, 1, 1, 0);
        int t = x.begin();
        x.write(t, 1, 50, 1, 0);
        DUE.is("the row, two of index 0, but not the end", 0, x.tear(t, 3));
        t = x.begin();
        x.write(t, 1, 50, 1, 0);
        DUE.is("with the end", 1, x.tear(t, 4));
        Steps.sizes(DUE, "three more", x, 2, 6, 0);
    }

    private static void promise10TearDoesNotFlush() {
        VersionedRows x = new VersionedRows();
        int t = x.begin();
        for (int key = 0; key < 32; key++) {
            x.write(t, key, 0, 0, 0);
        }
        DUE.is("32 entries", 1, x.tear(t, 33));
        Steps.sizes(DUE, "no flush", x, 1, 32, 0);
        x.commit(x.begin());
        Steps.sizes(DUE, "an empty commit", x, 1, 32, 0);
        Steps.commitRows(x, 0, 0, 0);
        Steps.sizes(DUE, "the next commit flushes", x, 2, 0, 33);
    }

    private static void promise10Refused() {
        VersionedRows x = new VersionedRows();
        DUE.is("none yet", -1, x.tear(0, 1));
        int late = x.begin();
        x.write(late, 0, 0, 0, 0);
        Steps.commitRows(x, 0, 0, 0);
        int empty = x.begin();
        int open = x.begin();
        x.write(open, 5, 0, 0, 0);
        DUE.is("no writes", -1, x.tear(empty, 1));
        DUE.is("would be beaten", -1, x.tear(late, 9));
        DUE.is("n below 0", -1, x.tear(open, -1));
        DUE.is("least n", -1, x.tear(open, Integer.MIN_VALUE));
        DUE.is("not open", -1, x.tear(1, 9));
        DUE.is("t -1", -1, x.tear(-1, 9));
        DUE.is("t 4", -1, x.tear(4, 9));
        DUE.is("no crash: late", 1, x.state(late));
        DUE.is("no crash: empty", 1, x.state(empty));
        DUE.is("no crash: open", 1, x.state(open));
        Steps.sizes(DUE, "refused", x, 1, 1, 0);
        DUE.is("so it is beaten", VersionedRows.BEATEN, x.commit(late));

        x = almostFull();
        int t = x.begin();
        x.write(t, 0, 300, 0, 0);
        x.write(t, 1, 301, 0, 0);
        DUE.is("would be full", -1, x.tear(t, 0));
        DUE.is("would be full, with all pieces", -1, x.tear(t, 3));
        DUE.is("it stays open", 1, x.state(t));
        t = x.begin();
        x.write(t, 0, 300, 0, 0);
        DUE.is("500 have room", 1, x.tear(t, 2));
        Steps.sizes(DUE, "500", x, 4, 1, 499);
    }

    private static void promise14Crash() {
        VersionedRows x = Steps.withIndexes(Steps.NUMBER);
        Steps.commitRows(x, 0, 1, 10);
        x.flush();
        Steps.commitRows(x, 2, 3, 10);
        int t = x.begin();
        int reader = x.begin();
        x.write(t, 9, 9, 0, 0);
        Steps.sayAll(x, Steps.FLAG, 0, Steps.NUMBER, 0, Steps.CONST, 12, Steps.LESS, 0);
        DUE.is("query", 2, x.query(reader));
        x.say(Steps.STARTS, 0);
        DUE.is("two are lost", 2, x.crash());
        DUE.is("state of t", 5, x.state(t));
        DUE.is("state of the reader", 5, x.state(reader));
        DUE.is("still committed", 2, x.state(0));
        DUE.is("none is open", 0, x.crash());
        DUE.is("a lost one reads nothing", -1, x.read(reader, 0, 0));
        DUE.is("a lost one commits nothing", -1, x.commit(t));
        DUE.is("horizon", 2, x.about(1));
        Steps.sizes(DUE, "memory and files", x, 2, 4, 4);
        DUE.is("the pile", 2, x.about(4));
        DUE.is("its top", 1, x.about(5));
        DUE.is("the indexes", 1, x.about(6));
        Steps.result(DUE, "after the crash", x, 0, 1);
        Steps.plan(DUE, "after the crash", x, 0, 2, Integer.MIN_VALUE, 11);
        int after = x.begin();
        DUE.is("the next number", 4, after);
        DUE.is("a row of memory", 13, x.read(after, 3, 0));
        DUE.is("a row of a file", 10, x.read(after, 0, 0));
        DUE.is("no row of t", 0, x.read(after, 9, 3));
        DUE.is("the pile's BOOL", 4, x.query(after));
    }
}
