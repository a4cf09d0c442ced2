/** Promises 12, 13 and 18 to 20: flush, compact, about, files, file. */
public final class FileTest {
    private static final Due DUE = new Due();

    public static void main(String[] args) {
        promise12Flush();
        promise13OldestOfTheLeastLevel();
        promise13Meeting();
        promise13MeetingBetween();
        promise13LeavesOut();
        promise13Horizon();
        promise13Dead();
        promise13DeadAboveTheHorizon();
        promise13FullFiles();
        promise13VersionsStayTogether();
        promise13OrderOfIndexEntries();
        promise18About();
        promise19And20WrongInputs();
        DUE.end("FileTest");
    }

    private static void promise12Flush() {
        VersionedRows x = new VersionedRows();
        DUE.is("nothing to flush", 0, x.flush());
        Steps.levels(DUE, "no file", x, 0, 0, 0);
        for (int i = 1; i <= 4; i++) {
            Steps.commitRows(x, i, 2 * i, 0);
            DUE.is("flush " + i, i + 1, x.flush());
            DUE.is("flush again", 0, x.flush());
            Steps.levels(DUE, "flush " + i, x, i, 0, 0);
            Steps.file(DUE, x, 0, i - 1, i, i + 1, 0, 0, i, 0, 0, 2 * i);
        }
        Steps.sizes(DUE, "flushed", x, 4, 0, 14);
        int t = x.begin();
        DUE.is("the newest file counts", 4, x.read(t, 4, 0));
        x.write(t, 9, 9, 0, 0);
        DUE.is("writes of an open one are not flushed", 0, x.flush());
        DUE.is("and stay", 9, x.read(t, 9, 0));
    }

    private static void promise13OldestOfTheLeastLevel() {
        VersionedRows x = new VersionedRows();
        DUE.is("no file", -1, x.compact());
        Steps.commitRows(x, 0, 0, 0);
        DUE.is("memory alone", -1, x.compact());
        x.flush();
        Steps.commitRows(x, 1, 1, 0);
        x.flush();
        DUE.is("file 1", 0, x.compact());
        Steps.levels(DUE, "file 1", x, 1, 1, 0);
        Steps.file(DUE, x, 0, 0, 2, 1, 0, 0, 1);
        Steps.file(DUE, x, 1, 0, 3, 1, 0, 0, 0);
        DUE.is("file 2", 0, x.compact());
        Steps.levels(DUE, "file 2", x, 0, 2, 0);
        Steps.file(DUE, x, 1, 1, 4, 1, 0, 0, 1);
        DUE.is("level 1", 0, x.compact());
        Steps.levels(DUE, "level 1", x, 0, 1, 1);
        Steps.file(DUE, x, 1, 0, 4, 1, 0, 0, 1);
        Steps.file(DUE, x, 2, 0, 5, 1, 0, 0, 0);
        DUE.is("level 1 again", 0, x.compact());
        Steps.levels(DUE, "level 1 again", x, 0, 0, 2);
        Steps.file(DUE, x, 2, 1, 6, 1, 0, 0, 1);
        DUE.is("level 2 alone", -1, x.compact());
        Steps.levels(DUE, "level 2 alone", x, 0, 0, 2);
        DUE.is("the rows are there", 1, x.read(x.begin(), 1, 3));
    }

    /** Level 1 gets the files 0..1, 4..6 and 9..9; then a file from..to comes down. */
    private static VersionedRows threeOnLevel1(int from, int to) {
        VersionedRows x = new VersionedRows();
        x.begin();
        int[][] spans = {{0, 1}, {4, 6}, {9, 9}, {from, to}};
        for (int[] span : spans) {
            Steps.commitRows(x, span[0], span[1], 0);
            x.flush();
            x.compact();
        }
        return x;
    }

    private static void promise13Meeting() {
        VersionedRows x = threeOnLevel1(2, 3);
        Steps.levels(DUE, "meets none", x, 0, 4, 0);
        x = threeOnLevel1(1, 3);
        Steps.levels(DUE, "meets the last of the first", x, 0, 3, 0);
        Steps.file(DUE, x, 1, 2, 8, 5, 0, 0, 0, 0, 0, 3);
        x = threeOnLevel1(2, 4);
        Steps.levels(DUE, "meets the first of the second", x, 0, 3, 0);
        Steps.file(DUE, x, 1, 0, 2, 2, 0, 0, 0, 0, 0, 1);
        Steps.file(DUE, x, 1, 1, 6, 1, 0, 0, 9, 0, 0, 9);
        Steps.file(DUE, x, 1, 2, 8, 6, 0, 0, 2, 0, 0, 6);
        x = threeOnLevel1(5, 5);
        Steps.levels(DUE, "lies within the second", x, 0, 3, 0);
        Steps.file(DUE, x, 1, 2, 8, 4, 0, 0, 4, 0, 0, 6);
        x = threeOnLevel1(3, 10);
        Steps.levels(DUE, "spans two", x, 0, 2, 0);
        Steps.file(DUE, x, 1, 1, 8, 12, 0, 0, 3, 0, 0, 10);
        x = threeOnLevel1(10, 12);
        Steps.levels(DUE, "lies behind all", x, 0, 4, 0);
    }

    /** Files meet by their ends, also where none of their entries is of the same key. */
    private static void promise13MeetingBetween() {
        VersionedRows x = new VersionedRows();
        int t = x.begin();
        x.write(t, 3, 0, 0, 0);
        x.write(t, 7, 0, 0, 0);
        x.commit(t);
        x.flush();
        x.compact();
        Steps.commitRows(x, 5, 5, 0);
        x.flush();
        x.compact();
        Steps.levels(DUE, "between the ends", x, 0, 1, 0);
        Steps.file(DUE, x, 1, 0, 4, 3, 0, 0, 3, 0, 0, 7);

        x = Steps.withIndexes(Steps.NUMBER);
        Steps.commitRows(x, 3, 3, 0);
        x.flush();
        x.compact();
        Steps.commitRows(x, 1, 1, 0);
        x.flush();
        x.compact();
        Steps.levels(DUE, "other keys, but ends that cross", x, 0, 1, 0);
        Steps.file(DUE, x, 1, 0, 4, 4, 0, 0, 1, 1, 3, 3);
    }

    private static void promise13LeavesOut() {
        VersionedRows x = new VersionedRows();
        for (int i = 0; i < 4; i++) {
            Steps.commitRows(x, 6, 6, i);
        }
        DUE.is("flush leaves nothing out", 4, x.flush());
        DUE.is("the last is left", 3, x.compact());
        Steps.file(DUE, x, 1, 0, 2, 1, 0, 0, 6, 0, 0, 6);
        DUE.is("it is the latest", 9, x.read(x.begin(), 6, 0));
        Steps.commitRows(x, 6, 6, 50);
        x.flush();
        DUE.is("with an open one that sees the first", 0, x.compact());
        x.commit(4);
        DUE.is("when it has ended", 1, x.compact());
        Steps.sizes(DUE, "one is left", x, 5, 0, 1);
        DUE.is("the newest", 56, x.read(x.begin(), 6, 0));
    }

    private static void promise13Horizon() {
        VersionedRows x = new VersionedRows();
        int[] readers = new int[3];
        for (int i = 0; i < 6; i++) {
            if (i % 2 == 1) {
                readers[i / 2] = x.begin();
            }
            Steps.commitRows(x, 1, 1, 10 * i);
        }
        // stamps 1 to 6 for key 1; readers began at 1, 3 and 5
        x.flush();
        DUE.is("horizon 1", 1, x.about(1));
        DUE.is("all can be seen from 1 on", 0, x.compact());
        x.abort(readers[0]);
        DUE.is("horizon 3", 3, x.about(1));
        DUE.is("stamps 1 and 2 go", 2, x.compact());
        DUE.is("reader at 3", 21, x.read(readers[1], 1, 0));
        DUE.is("reader at 5", 41, x.read(readers[2], 1, 0));
        DUE.is("four are left", 4, x.file(2, 0, 1));
        DUE.is("level 2 is not compacted", -1, x.compact());
    }

    private static void promise13Dead() {
        VersionedRows x = Steps.withIndexes(Steps.NUMBER);
        Steps.commitRows(x, 1, 1, 4);
        Steps.commitRemoval(x, 1);
        x.flush();
        DUE.is("the dead stay on level 1", 2, x.compact());
        Steps.sizes(DUE, "two dead", x, 2, 0, 2);
        Steps.file(DUE, x, 1, 0, 2, 2, 0, 0, 1, 1, 5, 1);
        DUE.is("no row", 0, x.read(x.begin(), 1, 3));
        DUE.is("the dead go on the way to level 2", 2, x.compact());
        Steps.levels(DUE, "nothing is left", x, 0, 0, 0);
        Steps.sizes(DUE, "nothing is left", x, 2, 0, 0);
        DUE.is("still no row", 0, x.read(x.begin(), 1, 3));
        Steps.commitRows(x, 1, 1, 0);
        x.flush();
        Steps.file(DUE, x, 0, 0, 3);
    }

    private static void promise13DeadAboveTheHorizon() {
        VersionedRows x = new VersionedRows();
        Steps.commitRows(x, 1, 1, 4);
        int reader = x.begin();
        Steps.commitRemoval(x, 1);
        x.flush();
        x.compact();
        DUE.is("the reader sees the row: both stay", 0, x.compact());
        DUE.is("it reads", 5, x.read(reader, 1, 0));
        DUE.is("on level 2", 2, x.file(2, 0, 1));
        x.abort(reader);
        Steps.commitRows(x, 1, 1, 6);
        Steps.commitRemoval(x, 1);
        reader = x.begin();
        Steps.commitRows(x, 1, 1, 8);
        x.flush();
        // stamps 5 and, at the horizon, the dead 4; behind it 3, then 2 and 1 on level 2
        DUE.is("3 goes", 1, x.compact());
        DUE.is("the dead 4, 2 and 1 go", 3, x.compact());
        DUE.is("5 is left", 1, x.file(2, 0, 1));
        DUE.is("the reader sees none", 0, x.read(reader, 1, 3));
        DUE.is("a new one sees 5", 9, x.read(x.begin(), 1, 0));
    }

    private static void promise13FullFiles() {
        VersionedRows x = new VersionedRows();
        Steps.commitRows(x, 0, 11, 0);
        x.flush();
        x.compact();
        Steps.levels(DUE, "12 entries", x, 0, 1, 0);
        Steps.commitRows(x, 0, 12, 0);
        x.flush();
        DUE.is("12 go", 12, x.compact());
        Steps.levels(DUE, "13 entries", x, 0, 2, 0);
        Steps.file(DUE, x, 1, 0, 4, 12, 0, 0, 0, 0, 0, 11);
        Steps.file(DUE, x, 1, 1, 5, 1, 0, 0, 12, 0, 0, 12);
        Steps.commitRows(x, 0, 31, 0);
        DUE.is("13 go", 13, x.compact());
        Steps.levels(DUE, "32 entries", x, 0, 3, 0);
        Steps.file(DUE, x, 1, 0, 7, 12, 0, 0, 0, 0, 0, 11);
        Steps.file(DUE, x, 1, 1, 8, 12, 0, 0, 12, 0, 0, 23);
        Steps.file(DUE, x, 1, 2, 9, 8, 0, 0, 24, 0, 0, 31);
    }

    private static void promise13VersionsStayTogether() {
        VersionedRows x = new VersionedRows();
        x.begin();
        Steps.commitRows(x, 0, 12, 0);
        Steps.commitRows(x, 11, 11, 10);
        Steps.commitRows(x, 11, 11, 20);
        x.flush();
        DUE.is("all versions stay", 0, x.compact());
        Steps.levels(DUE, "two files", x, 0, 2, 0);
        Steps.file(DUE, x, 1, 0, 2, 14, 0, 0, 0, 0, 0, 11);
        Steps.file(DUE, x, 1, 1, 3, 1, 0, 0, 12, 0, 0, 12);
        x.abort(0);
        DUE.is("two versions go", 2, x.compact());
        Steps.file(DUE, x, 2, 0, 4, 12, 0, 0, 0, 0, 0, 11);
    }

    private static void promise13OrderOfIndexEntries() {
        VersionedRows x = Steps.withIndexes(Steps.NUMBER, Steps.NAME);
        int t = x.begin();
        x.write(t, 9, Integer.MAX_VALUE, 0, 729);
        x.write(t, 4, Integer.MIN_VALUE, 0, 756);
        x.write(t, 5, -1, 0, 729);
        x.write(t, 6, 0, 0, 729);
        x.write(t, 7, 1, 0, 729);
        x.commit(t);
        x.flush();
        Steps.file(DUE, x, 0, 0, 1, 15, 0, 0, 4, 2, 756, 4);
        x.compact();
        // space 0: 4 5 6 7 9; space 1: MIN 4, -1 5, 0 6, 1 7, MAX 9; space 2: 729 5, 6 | 7, 9, 756 4
        Steps.file(DUE, x, 1, 0, 2, 12, 0, 0, 4, 2, 729, 6);
        Steps.file(DUE, x, 1, 1, 3, 3, 2, 729, 7, 2, 756, 4);

        x = Steps.withIndexes(Steps.NUMBER);
        t = x.begin();
        for (int key = 0; key < 8; key++) {
            x.write(t, key, key == 3 ? -1 : key, 0, 0);
        }
        x.commit(t);
        x.flush();
        x.compact();
        // behind the 8 rows: -1 3, 0 0, 1 1, 2 2 | 4 4, ..
        Steps.file(DUE, x, 1, 0, 2, 12, 0, 0, 0, 1, 2, 2);
        Steps.file(DUE, x, 1, 1, 3, 4, 1, 4, 4, 1, 7, 7);
        t = x.begin();
        x.remove(t, 3);
        x.commit(t);
        x.flush();
        Steps.file(DUE, x, 0, 0, 4, 2, 0, 0, 3, 1, -1, 3);
    }

    private static void promise18About() {
        VersionedRows x = Steps.withIndexes(Steps.NUMBER);
        Steps.commitRows(x, 0, 2, 0);
        x.flush();
        int reader = x.begin();
        Steps.commitRows(x, 3, 3, 0);
        x.say(Steps.NUMBER, 0);
        int[] all = {2, 1, 2, 6, 1, 0, 1};
        for (int what = 0; what < all.length; what++) {
            DUE.is("about(" + what + ")", all[what], x.about(what));
        }
        x.say(Steps.CONST, 4);
        DUE.is("two on the pile", 2, x.about(4));
        x.say(Steps.LESS, 0);
        DUE.is("a BOOL", 1, x.about(5));
        x.query(reader);
        DUE.is("an empty pile", 0, x.about(4));
        DUE.is("no top", -1, x.about(5));
        int second = x.begin();
        DUE.is("the least begin", 1, x.about(1));
        x.commit(reader);
        DUE.is("the second one's begin", 2, x.about(1));
        Steps.commitRows(x, 4, 4, 0);
        x.abort(second);
        DUE.is("the last stamp", 3, x.about(1));
        int[] wrong = {-1, 7, Integer.MAX_VALUE, Integer.MIN_VALUE};
        for (int what : wrong) {
            DUE.is("about(" + what + ")", -1, x.about(what));
        }
    }

    private static void promise19And20WrongInputs() {
        VersionedRows x = new VersionedRows();
        Steps.commitRows(x, 3, 5, 0);
        x.flush();
        int[] levels = {-1, 3, 4, Integer.MAX_VALUE, Integer.MIN_VALUE};
        for (int level : levels) {
            DUE.is("files(" + level + ")", -1, x.files(level));
            DUE.is("file(" + level + ", 0, 0)", -1, x.file(level, 0, 0));
        }
        int[] whats = {-1, 8, Integer.MAX_VALUE, Integer.MIN_VALUE};
        for (int what : whats) {
            DUE.is("file(0, 0, " + what + ")", -1, x.file(0, 0, what));
        }
        int[] ks = {-1, 1, Integer.MAX_VALUE, Integer.MIN_VALUE};
        for (int k : ks) {
            DUE.is("file(0, " + k + ", 0)", -1, x.file(0, k, 0));
        }
        DUE.is("an empty level", 0, x.files(1));
        DUE.is("no file on it", -1, x.file(1, 0, 0));
        Steps.file(DUE, x, 0, 0, 1, 3, 0, 0, 3, 0, 0, 5);
    }
}
