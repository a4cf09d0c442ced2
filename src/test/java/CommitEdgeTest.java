/** The edges that the document names for commits, torn commits, flushes, overfull levels and crashes. */
public final class CommitEdgeTest {
    private static final Due DUE = new Due();

    public static void main(String[] args) {
        stampEqualToTheBegin();
        everyKeyCanBeat();
        entriesAnywhereCanBeat();
        noWritesIsNeverBeaten();
        beatenComesBeforeFull();
        batchOfOldAndNew();
        anotherValueNotAnotherRow();
        fiveHundredAndOne();
        fullThoughMergesWouldMakeRoom();
        fullStaysOpenWithItsWrites();
        noWritesIsNeverFull();
        tearIsFullAt501();
        memoryOf19And20();
        noFlushWithoutABatch();
        levelZeroWithTwoAndThree();
        levelOneWithThreeAndFour();
        leastOverfullLevelFirst();
        handMadeFlushMergesNothing();
        flushOfAnEmptyMemory();
        piecesOfATornCommit();
        tornCommitThatIsWholeLosesTheOthers();
        crashOfNoneAndOfFive();
        crashKeepsAllElse();
        DUE.end("CommitEdgeTest");
    }

    /** "an entry in space 0 with a stamp above its begin": one that is equal is not above. */
    private static void stampEqualToTheBegin() {
        VersionedRows x = new VersionedRows();
        int before = x.begin();
        x.write(before, 4, 1, 0, 0);
        DUE.is("stamp 1", 1, Steps.commitRows(x, 4, 4, 0));
        int after = x.begin();
        x.write(after, 4, 2, 0, 0);
        DUE.is("with the begin 1", 2, x.commit(after));
        DUE.is("with the begin 0", VersionedRows.BEATEN, x.commit(before));
        DUE.is("the row", 2, x.read(x.begin(), 4, 0));
    }

    /** Any one of the keys that it writes is enough, be it written or removed, here and there. */
    private static void everyKeyCanBeat() {
        for (int key = 0; key < 32; key++) {
            VersionedRows x = new VersionedRows();
            int all = x.begin();
            int allButOne = x.begin();
            for (int k = 0; k < 32; k++) {
                x.write(all, k, k, 0, 0);
                if (k != key) {
                    x.remove(allButOne, k);
                }
            }
            Steps.commitRemoval(x, key);
            DUE.is("all keys, beaten at " + key, VersionedRows.BEATEN, x.commit(all));
            DUE.is("its state", 3, x.state(all));
            DUE.is("all keys but " + key, 2, x.commit(allButOne));
        }
    }

    /** "an entry in space 0", in memory or in a file of any level. */
    private static void entriesAnywhereCanBeat() {
        for (int depth = 0; depth <= 3; depth++) {
            VersionedRows x = new VersionedRows();
            int late = x.begin();
            x.write(late, 31, 0, 0, 0);
            Steps.commitRows(x, 31, 31, 0);
            for (int i = 0; i < depth; i++) {
                if (i == 0) {
                    x.flush();
                } else {
                    x.compact();
                }
            }
            DUE.is("beaten from depth " + depth, VersionedRows.BEATEN, x.commit(late));
            Steps.sizes(DUE, "depth " + depth, x, 1, depth == 0 ? 1 : 0, depth == 0 ? 0 : 1);
        }
    }

    /** "With no writes: COMMITTED", "with no writes its begin". */
    private static void noWritesIsNeverBeaten() {
        VersionedRows x = new VersionedRows();
        int reader = x.begin();
        x.read(reader, 3, 0);
        Steps.commitRows(x, 0, 31, 0);
        DUE.is("its begin", 0, x.commit(reader));
        DUE.is("its state", 2, x.state(reader));
        Steps.sizes(DUE, "nothing more", x, 1, 0, 32);
    }

    /** 499 entries in files; transaction 0 is open since stamp 0. */
    private static VersionedRows with499() {
        VersionedRows x = Steps.withIndexes(Steps.NUMBER, Steps.NUMBER, Steps.NUMBER);
        x.begin();
        Steps.commitRows(x, 0, 31, 100);
        Steps.commitRows(x, 0, 31, 200);
        Steps.commitRows(x, 0, 20, 300);
        Steps.sizes(DUE, "128 and 224 and 147", x, 3, 0, 499);
        return x;
    }

    /** Whether it is BEATEN is said before its batch is. */
    private static void beatenComesBeforeFull() {
        VersionedRows x = with499();
        x.write(0, 0, 7, 0, 0);
        x.write(0, 1, 7, 0, 0);
        DUE.is("tear of one that would be both", -1, x.tear(0, 0));
        DUE.is("it would be both", VersionedRows.BEATEN, x.commit(0));
        DUE.is("its state", 3, x.state(0));
    }

    /** "when there is an old one, and no new one or another: .. dead; when there is a new one, ..: .. live". */
    private static void batchOfOldAndNew() {
        int nothing = -1;
        int[][] cases = {
            {nothing, nothing, 1}, {nothing, 5, 2}, {5, nothing, 2}, {5, 5, 1}, {5, 6, 3}, {6, 5, 3}, {0, 5, 3},
            {5, 0, 3}};
        for (int[] c : cases) {
            VersionedRows x = Steps.withIndexes(Steps.NUMBER);
            commitOrRemove(x, 8, c[0]);
            x.flush();
            commitOrRemove(x, 8, c[1]);
            String what = "from " + c[0] + " to " + c[1];
            DUE.is(what, c[2], x.about(2));
            x.flush();
            int last = Math.max(c[0], c[1]);
            boolean inIndex = c[2] > 1;
            Steps.file(DUE, x, 0, 1, 2, c[2], 0, 0, 8, inIndex ? 1 : 0, inIndex ? last : 0, 8);
            int t = x.begin();
            for (int value = 0; value <= 6; value++) {
                Steps.sayAll(x, Steps.NUMBER, 0, Steps.CONST, value, Steps.SAME, 0);
                DUE.is(what + ": result for " + value, value == c[1] ? 1 : 0, x.query(t));
                Steps.plan(DUE, what, x, 0, value == c[1] ? 1 : 0, value, value);
            }
        }
    }

    private static void commitOrRemove(VersionedRows x, int key, int number) {
        int t = x.begin();
        if (number < 0) {
            x.remove(t, key);
        } else {
            x.write(t, key, number, 0, 0);
        }
        x.commit(t);
    }

    /** Rows may differ where the values of an index do not, also by a wrap. */
    private static void anotherValueNotAnotherRow() {
        VersionedRows x = new VersionedRows();
        Steps.sayAll(x, Steps.NUMBER, 0, Steps.CONST, Integer.MIN_VALUE, Steps.TIMES, 0);
        x.index();
        commitOrRemove(x, 0, 2);
        Steps.sizes(DUE, "2 times 2^31", x, 1, 2, 0);
        commitOrRemove(x, 0, 4);
        Steps.sizes(DUE, "4 times 2^31 is the same", x, 2, 3, 0);
        commitOrRemove(x, 0, 5);
        Steps.sizes(DUE, "5 times 2^31 is another", x, 3, 6, 0);
    }

    /** "When memory and files would have more than 500 entries with it, it is FULL". */
    private static void fiveHundredAndOne() {
        VersionedRows x = with499();
        int two = x.begin();
        x.write(two, 30, 230, 0, 0);
        x.write(two, 31, 231, 0, 0);
        DUE.is("501", VersionedRows.FULL, x.commit(two));
        DUE.is("500", 4, Steps.commitRows(x, 29, 29, 200));
        Steps.sizes(DUE, "500 of memory and files", x, 4, 1, 499);
        DUE.is("501 by one", VersionedRows.FULL, Steps.commitRows(x, 28, 28, 200));
        x.flush();
        Steps.sizes(DUE, "500 of files", x, 4, 0, 500);
        DUE.is("501 still", VersionedRows.FULL, Steps.commitRows(x, 27, 27, 200));
    }

    private static int tearRows(VersionedRows x, int from, int to, int base) {
        int t = x.begin();
        for (int key = from; key <= to; key++) {
            x.write(t, key, base + key, 1, 0);
        }
        return x.tear(t, Integer.MAX_VALUE);
    }

    /** Room is asked for before the flush and the merges, whatever these would leave out. */
    private static void fullThoughMergesWouldMakeRoom() {
        VersionedRows x = Steps.withIndexes(Steps.NUMBER, Steps.NUMBER, Steps.NUMBER);
        DUE.is("128", 1, tearRows(x, 0, 31, 100));
        DUE.is("and 224", 1, tearRows(x, 0, 31, 200));
        DUE.is("and 147", 1, tearRows(x, 0, 20, 300));
        DUE.is("and 1", 1, tearRows(x, 31, 31, 200));
        Steps.sizes(DUE, "500 in memory", x, 4, 500, 0);
        int t = x.begin();
        x.write(t, 0, 300, 0, 0);
        DUE.is("no room", VersionedRows.FULL, x.commit(t));
        Steps.sizes(DUE, "no flush either", x, 4, 500, 0);
        DUE.is("no tear", -1, x.tear(t, 2));
        DUE.is("flush", 500, x.flush());
        DUE.is("no room in files", VersionedRows.FULL, x.commit(t));
        DUE.is("what nobody sees", 32 + 22 + 3 * (32 + 21), x.compact());
        DUE.is("now", 5, x.commit(t));
    }

    /** "nothing happens, and it stays OPEN with its writes". */
    private static void fullStaysOpenWithItsWrites() {
        VersionedRows x = with499();
        int t = x.begin();
        x.write(t, 30, 9, 0, 0);
        x.remove(t, 31);
        DUE.is("full", VersionedRows.FULL, x.commit(t));
        DUE.is("open", 1, x.state(t));
        DUE.is("its row", 9, x.read(t, 30, 0));
        DUE.is("its removal", 0, x.read(t, 31, 3));
        DUE.is("it may write on", true, x.write(t, 30, 230, 0, 0));
        DUE.is("its last row", 230, x.read(t, 30, 0));
        DUE.is("the same again", VersionedRows.FULL, x.commit(t));
        DUE.is("its removal still", 0, x.read(t, 31, 3));
        x.abort(0);
        DUE.is("what nobody sees goes", true, x.compact() > 0);
        DUE.is("now there is room", 4, x.commit(t));
        int r = x.begin();
        DUE.is("its row was committed", 230, x.read(r, 30, 0));
        DUE.is("its removal was committed", 0, x.read(r, 31, 3));
    }

    /** "With no writes: COMMITTED" stands before what is FULL. */
    private static void noWritesIsNeverFull() {
        VersionedRows x = with499();
        Steps.commitRows(x, 31, 31, 200);
        DUE.is("500", 500, x.about(2) + x.about(3));
        DUE.is("no writes", 4, x.commit(x.begin()));
        DUE.is("no writes since stamp 0", 0, x.commit(0));
    }

    /** "would be BEATEN or FULL": 500 have room, 501 have not. */
    private static void tearIsFullAt501() {
        VersionedRows x = with499();
        int two = x.begin();
        x.write(two, 30, 230, 0, 0);
        x.write(two, 31, 231, 0, 0);
        DUE.is("501", -1, x.tear(two, 3));
        DUE.is("501 in pieces", -1, x.tear(two, 1));
        DUE.is("no crash", 1, x.state(0));
        int one = x.begin();
        x.write(one, 31, 231, 0, 0);
        DUE.is("500", 1, x.tear(one, 2));
        DUE.is("a crash", 5, x.state(0));
        Steps.sizes(DUE, "500", x, 4, 1, 499);
    }

    /** "if memory has 20 entries or more now, it is FLUSHED". */
    private static void memoryOf19And20() {
        for (int size = 17; size <= 32; size++) {
            VersionedRows x = new VersionedRows();
            Steps.commitRows(x, 0, size - 1, 0);
            boolean flushed = size >= 20;
            Steps.sizes(DUE, size + " at once", x, 1, flushed ? 0 : size, flushed ? size : 0);
            DUE.is("files of " + size, flushed ? 1 : 0, x.files(0));
        }
        VersionedRows x = new VersionedRows();
        for (int i = 1; i <= 19; i++) {
            Steps.commitRows(x, i, i, 0);
            Steps.sizes(DUE, i + " one by one", x, i, i, 0);
        }
        Steps.commitRows(x, 0, 0, 0);
        Steps.sizes(DUE, "20 one by one", x, 20, 0, 20);
        Steps.file(DUE, x, 0, 0, 1, 20, 0, 0, 0, 0, 0, 19);
    }

    /** The flush stands with the batch: a commit without one leaves what a tear has left in memory. */
    private static void noFlushWithoutABatch() {
        VersionedRows x = new VersionedRows();
        DUE.is("tear", 1, tearRows(x, 0, 24, 0));
        int late = x.begin();
        DUE.is("no writes", 1, x.commit(x.begin()));
        Steps.sizes(DUE, "no flush", x, 1, 25, 0);
        x.write(late, 3, 3, 0, 0);
        x.abort(late);
        Steps.sizes(DUE, "an abort", x, 1, 25, 0);
        Steps.commitRows(x, 31, 31, 0);
        Steps.sizes(DUE, "a batch", x, 2, 0, 26);
    }

    /** "OVERFULL: level 0 with more than 2 files". */
    private static void levelZeroWithTwoAndThree() {
        VersionedRows x = new VersionedRows();
        Steps.commitRows(x, 0, 19, 0);
        Steps.levels(DUE, "one", x, 1, 0, 0);
        Steps.commitRows(x, 0, 19, 0);
        Steps.levels(DUE, "two", x, 2, 0, 0);
        Steps.commitRows(x, 0, 19, 0);
        Steps.levels(DUE, "a third", x, 2, 2, 0);
        Steps.file(DUE, x, 0, 0, 2, 20, 0, 0, 0, 0, 0, 19);
        Steps.file(DUE, x, 0, 1, 3, 20, 0, 0, 0, 0, 0, 19);
    }

    /** A file on level 1 for each of the keys. */
    private static VersionedRows onLevelOne(int... keys) {
        VersionedRows x = new VersionedRows();
        for (int key : keys) {
            Steps.commitRows(x, key, key, 0);
            x.flush();
            x.compact();
        }
        return x;
    }

    /** "level 1 with more than 3". */
    private static void levelOneWithThreeAndFour() {
        VersionedRows x = onLevelOne(0, 2, 4);
        Steps.commitRows(x, 10, 29, 0);
        Steps.levels(DUE, "three stay", x, 1, 3, 0);
        x = onLevelOne(0, 2, 4, 6);
        Steps.levels(DUE, "four by hand stay", x, 0, 4, 0);
        Steps.commitRows(x, 10, 29, 0);
        Steps.levels(DUE, "the first of four goes down", x, 1, 3, 1);
        Steps.file(DUE, x, 1, 0, 4, 1, 0, 0, 2);
        Steps.file(DUE, x, 2, 0, 10, 1, 0, 0, 0);
        x = onLevelOne(0, 2, 4, 6, 8);
        Steps.commitRows(x, 10, 29, 0);
        Steps.levels(DUE, "two of five go down", x, 1, 3, 2);
        Steps.file(DUE, x, 1, 0, 6, 1, 0, 0, 4);
    }

    /** "as long as a level is OVERFULL, the least such level is COMPACTED". */
    private static void leastOverfullLevelFirst() {
        VersionedRows x = onLevelOne(0, 2, 4, 6);
        Steps.commitRows(x, 8, 8, 0);
        x.flush();
        Steps.commitRows(x, 9, 9, 0);
        x.flush();
        Steps.levels(DUE, "before", x, 2, 4, 0);
        Steps.commitRows(x, 10, 29, 0);
        // file 11 is the flush; 9 goes to 12 on level 1, then 2 and 4 go to 13 and 14 on level 2
        Steps.levels(DUE, "behind", x, 2, 3, 2);
        Steps.file(DUE, x, 0, 0, 10, 1, 0, 0, 9);
        Steps.file(DUE, x, 0, 1, 11, 20, 0, 0, 10);
        Steps.file(DUE, x, 1, 0, 6, 1, 0, 0, 4);
        Steps.file(DUE, x, 1, 1, 8, 1, 0, 0, 6);
        Steps.file(DUE, x, 1, 2, 12, 1, 0, 0, 8);
        Steps.file(DUE, x, 2, 0, 13, 1, 0, 0, 0);
        Steps.file(DUE, x, 2, 1, 14, 1, 0, 0, 2);
    }

    /** "(only behind such a flush)", "Flushes memory (and compacts nothing)." */
    private static void handMadeFlushMergesNothing() {
        VersionedRows x = onLevelOne(0, 2, 4, 6);
        for (int i = 0; i < 5; i++) {
            Steps.commitRows(x, 10 + i, 10 + i, 0);
            DUE.is("flush", 1, x.flush());
            Steps.levels(DUE, "flush " + i, x, i + 1, 4, 0);
        }
        Steps.commitRows(x, 20, 30, 0);
        Steps.levels(DUE, "a commit without a flush", x, 5, 4, 0);
        DUE.is("a flush of 11", 11, x.flush());
        Steps.levels(DUE, "flushed", x, 6, 4, 0);
        tearRows(x, 0, 24, 0);
        DUE.is("a flush of 25", 25, x.flush());
        Steps.levels(DUE, "flushed again", x, 7, 4, 0);
        DUE.is("one merge by hand", 0, x.compact());
        Steps.levels(DUE, "merged once", x, 6, 5, 0);
    }

    /** "a file on level 0 of all its entries, if there are any; memory is empty". */
    private static void flushOfAnEmptyMemory() {
        VersionedRows x = new VersionedRows();
        DUE.is("a new object", 0, x.flush());
        Steps.levels(DUE, "a new object", x, 0, 0, 0);
        Steps.commitRows(x, 3, 4, 0);
        DUE.is("two entries", 2, x.flush());
        Steps.sizes(DUE, "memory is empty", x, 1, 0, 2);
        DUE.is("none", 0, x.flush());
        Steps.levels(DUE, "one file", x, 1, 0, 0);
        Steps.commitRows(x, 3, 3, 0);
        DUE.is("one entry", 1, x.flush());
        Steps.file(DUE, x, 0, 1, 2, 1, 0, 0, 3, 0, 0, 3);
    }

    /** "When they are all, n is that many or more, ..; else nothing came of it". */
    private static void piecesOfATornCommit() {
        for (int n = 0; n <= 9; n++) {
            VersionedRows x = Steps.withIndexes(Steps.NUMBER, Steps.FLAG);
            Steps.commitRows(x, 0, 0, 5);
            int t = x.begin();
            x.write(t, 0, 6, 1, 0);
            x.remove(t, 1);
            x.write(t, 2, 7, 0, 0);
            // 3 and 1 and 3 entries, and the end
            boolean whole = n >= 8;
            DUE.is("tear with " + n, whole ? 1 : 0, x.tear(t, n));
            DUE.is("state with " + n, whole ? 2 : 5, x.state(t));
            Steps.sizes(DUE, "tear with " + n, x, whole ? 2 : 1, whole ? 10 : 3, 0);
            int r = x.begin();
            DUE.is("row 0 with " + n, whole ? 6 : 5, x.read(r, 0, 0));
            DUE.is("row 2 with " + n, whole ? 1 : 0, x.read(r, 2, 3));
        }
    }

    /** "then there is the crash (no flush)". */
    private static void tornCommitThatIsWholeLosesTheOthers() {
        VersionedRows x = new VersionedRows();
        for (int i = 0; i < 4; i++) {
            x.begin();
        }
        DUE.is("whole", 1, tearRows(x, 0, 31, 0));
        for (int t = 0; t < 4; t++) {
            DUE.is("lost " + t, 5, x.state(t));
        }
        DUE.is("committed", 2, x.state(4));
        Steps.sizes(DUE, "no flush", x, 1, 32, 0);
        DUE.is("none is open any more", 0, x.crash());
    }

    /** "Answers how many transactions are LOST by it." */
    private static void crashOfNoneAndOfFive() {
        VersionedRows x = new VersionedRows();
        DUE.is("none", 0, x.crash());
        for (int open = 1; open <= 5; open++) {
            for (int i = 0; i < open; i++) {
                x.begin();
            }
            DUE.is("lost", open, x.crash());
            DUE.is("lost once", 0, x.crash());
        }
        DUE.is("the last", 5, x.state(14));
    }

    /** "all that lies in files stays; so do the pile, the indexes, the latest result and plan". */
    private static void crashKeepsAllElse() {
        VersionedRows x = Steps.withIndexes(Steps.NUMBER);
        Steps.commitRows(x, 0, 9, 0);
        Steps.commitRows(x, 0, 1, 50);
        int t = x.begin();
        for (int i = 0; i < 8; i++) {
            x.say(i == 7 ? Steps.STARTS : Steps.NAME, 0);
        }
        x.query(t);
        x.say(Steps.CONST, 2);
        DUE.is("crash", 1, x.crash());
        Steps.levels(DUE, "files", x, 1, 0, 0);
        Steps.sizes(DUE, "files and memory", x, 2, 6, 20);
        DUE.is("the pile", 8, x.about(4));
        DUE.is("the index", 1, x.about(6));
        Steps.result(DUE, "the result", x, 0, 1, 2, 3, 4, 5, 6, 7, 8, 9);
        Steps.plan(DUE, "the plan", x, -1, 10, 0, 0);
        DUE.is("the next file's number", 6, x.flush());
        Steps.file(DUE, x, 0, 1, 2, 6, 0, 0, 0, 1, 51, 1);
        DUE.is("the next transaction", 3, x.begin());
    }
}
