/** The edges that the document names for compaction: meeting files, the horizon, the dead, full files. */
public final class MergeEdgeTest {
    private static final Due DUE = new Due();

    public static void main(String[] args) {
        endsByKeys();
        endsByValues();
        endsByNegativeValues();
        endsBySpaces();
        endsOnTheWayToLevelTwo();
        filesBetweenStay();
        horizonOfOneReader();
        horizonIsTheLeastBegin();
        horizonIsTheLastStamp();
        deadOnTheWayToLevelOne();
        deadAtAndAboveTheHorizon();
        liveOnTheWayToLevelTwo();
        nothingIsLeft();
        twelveEntriesAreFull();
        samePlaceGoesOn();
        leftOutDoesNotFill();
        orderBySpaceValueKey();
        greatestKeyBeforeTheNextValue();
        levelZeroThenLevelOne();
        leastNumberFirst();
        numbersAreNotUsedAgain();
        valueMayBeMinusOne();
        levelsFrom0To2();
        DUE.end("MergeEdgeTest");
    }

    private static void toLevelOne(VersionedRows x) {
        x.flush();
        x.compact();
    }

    /** Rows from..to in file 2 on level 1; by one more call they are in file 3 on level 2. */
    private static VersionedRows withRows(int from, int to) {
        VersionedRows x = new VersionedRows();
        x.begin();
        Steps.commitRows(x, from, to, 0);
        toLevelOne(x);
        return x;
    }

    /** "MEET it (neither of the two has its last space, value and key before the other one's first)". */
    private static void endsByKeys() {
        int[][] spans = {
            {8, 9, 0}, {8, 10, 1}, {8, 11, 1}, {8, 16, 1}, {10, 15, 1}, {12, 13, 1}, {14, 20, 1}, {15, 15, 1},
            {15, 20, 1}, {16, 16, 0}, {16, 20, 0}, {0, 31, 1}, {9, 9, 0}, {10, 10, 1}};
        for (int[] s : spans) {
            String what = s[0] + " .. " + s[1] + " and 10 .. 15";
            VersionedRows x = withRows(10, 15);
            Steps.commitRows(x, s[0], s[1], 0);
            toLevelOne(x);
            DUE.is(what, s[2] == 1, x.file(1, 0, 0) != 2);
            if (s[1] - s[0] < 12) {
                x = withRows(10, 15);
                x.compact();
                Steps.commitRows(x, s[0], s[1], 0);
                toLevelOne(x);
                x.compact();
                DUE.is(what + " on level 2", s[2] == 1, x.file(2, 0, 0) != 3);
            }
        }
    }

    private static void write(VersionedRows x, int t, int key, int number) {
        x.write(t, key, number, 0, 0);
    }

    /** On level 1: file 2 has the rows 20 .. 31, file 3 their entries of the index, from `least` at key 20 on. */
    private static VersionedRows twelveByNumber(int least) {
        VersionedRows x = Steps.withIndexes(Steps.NUMBER);
        int t = x.begin();
        for (int key = 20; key < 32; key++) {
            write(x, t, key, least + (key - 20) * 10);
        }
        x.commit(t);
        x.compact();
        Steps.file(DUE, x, 1, 0, 2, 12, 0, 0, 20, 0, 0, 31);
        Steps.file(DUE, x, 1, 1, 3, 12, 1, least, 20, 1, least + 110, 31);
        return x;
    }

    private static void endsAt(VersionedRows x, String what, boolean meets, int key, int number) {
        int t = x.begin();
        write(x, t, key, number);
        x.commit(t);
        toLevelOne(x);
        DUE.is(what, !meets, x.file(1, 0, 0) == 3);
    }

    /** The ends are compared by space first, then by value, then by key. */
    private static void endsByValues() {
        endsAt(twelveByNumber(100), "a lesser value, a lesser key", false, 5, 99);
        endsAt(twelveByNumber(100), "the same value, a lesser key", false, 5, 100);
        endsAt(twelveByNumber(100), "the same value, the key before", false, 19, 100);
        endsAt(twelveByNumber(100), "a greater value, a lesser key", true, 5, 101);
        VersionedRows x = twelveByNumber(100);
        int t = x.begin();
        write(x, t, 20, 50);
        x.commit(t);
        x.flush();
        Steps.file(DUE, x, 0, 0, 4, 3, 0, 0, 20, 1, 100, 20);
        x.compact();
        DUE.is("the same value, the same key", 5, x.file(1, 0, 0));
        x = twelveByNumber(100);
        t = x.begin();
        write(x, t, 21, 50);
        x.commit(t);
        x.flush();
        x.compact();
        DUE.is("a greater value, a greater key", 5, x.file(1, 0, 0));
    }

    private static void endsByNegativeValues() {
        endsAt(twelveByNumber(0), "-1 is before 0", false, 5, -1);
        endsAt(twelveByNumber(-1), "0 is behind -1", true, 5, 0);
        endsAt(twelveByNumber(-5), "the least is before -5", false, 5, Integer.MIN_VALUE);
        endsAt(twelveByNumber(-5), "the greatest is behind -5", true, 5, Integer.MAX_VALUE);
        endsAt(twelveByNumber(Integer.MIN_VALUE), "-1 is behind the least", true, 5, -1);
    }

    /** A greater value in a lesser space is before a lesser value in a greater space. */
    private static void endsBySpaces() {
        VersionedRows x = Steps.withIndexes(Steps.NUMBER, Steps.FLAG);
        Steps.commitRows(x, 0, 5, 100);
        toLevelOne(x);
        Steps.file(DUE, x, 1, 0, 2, 12, 0, 0, 0, 1, 105, 5);
        Steps.file(DUE, x, 1, 1, 3, 6, 2, 1, 0, 2, 1, 5);
        Steps.commitRows(x, 5, 5, 9000);
        x.flush();
        Steps.file(DUE, x, 0, 0, 4, 3, 0, 0, 5, 1, 9005, 5);
        DUE.is("the versions of row 5 and value 105", 2, x.compact());
        Steps.file(DUE, x, 1, 0, 3, 6, 2, 1, 0, 2, 1, 5);
        Steps.file(DUE, x, 1, 1, 5, 12, 0, 0, 0, 1, 105, 5);
        Steps.file(DUE, x, 1, 2, 6, 1, 1, 9005, 5, 1, 9005, 5);
    }

    private static void endsOnTheWayToLevelTwo() {
        VersionedRows x = twelveByNumber(100);
        x.compact();
        x.compact();
        Steps.levels(DUE, "both on level 2", x, 0, 0, 2);
        int t = x.begin();
        write(x, t, 5, 99);
        x.commit(t);
        toLevelOne(x);
        x.compact();
        // file 4 and the new one (6, 7) make 8 and 9; file 5 begins behind (1, 99, 5)
        Steps.levels(DUE, "one of two met", x, 0, 0, 3);
        Steps.file(DUE, x, 2, 0, 5, 12, 1, 100, 20, 1, 210, 31);
        Steps.file(DUE, x, 2, 1, 8, 12, 0, 0, 5, 0, 0, 30);
        Steps.file(DUE, x, 2, 2, 9, 2, 0, 0, 31, 1, 99, 5);
    }

    /** Of level l + 1 only those that meet it are no more; files of other levels stay, whatever they have. */
    private static void filesBetweenStay() {
        VersionedRows x = new VersionedRows();
        x.begin();
        for (int i = 0; i < 3; i++) {
            Steps.commitRows(x, 0, 0, i);
            x.flush();
        }
        DUE.is("the first of three", 0, x.compact());
        Steps.levels(DUE, "others of level 0 stay", x, 2, 1, 0);
        Steps.file(DUE, x, 0, 0, 2, 1, 0, 0, 0);
        Steps.file(DUE, x, 1, 0, 4, 1, 0, 0, 0);
        DUE.is("the second", 0, x.compact());
        DUE.is("the third", 0, x.compact());
        DUE.is("level 1", 0, x.compact());
        Steps.commitRows(x, 0, 0, 9);
        toLevelOne(x);
        Steps.levels(DUE, "level 2 stays", x, 0, 1, 1);
        Steps.file(DUE, x, 1, 0, 9, 1, 0, 0, 0);
        Steps.file(DUE, x, 2, 0, 7, 3, 0, 0, 0);
    }

    /** Stamps 1, 2, 3 of one key, and a reader for each begin that is given. */
    private static VersionedRows threeVersions(int... begins) {
        VersionedRows x = new VersionedRows();
        for (int stamp = 0; stamp <= 3; stamp++) {
            if (stamp > 0) {
                Steps.commitRows(x, 6, 6, 10 * stamp);
            }
            for (int begin : begins) {
                if (begin == stamp) {
                    x.begin();
                }
            }
        }
        x.flush();
        return x;
    }

    /** "all are left out that come behind the first with a stamp of at most HORIZON". */
    private static void horizonOfOneReader() {
        int[] leftOut = {0, 0, 1, 2};
        for (int begin = 0; begin <= 3; begin++) {
            VersionedRows x = threeVersions(begin);
            DUE.is("horizon", begin, x.about(1));
            DUE.is("left out with horizon " + begin, leftOut[begin], x.compact());
            DUE.is("size with horizon " + begin, 3 - leftOut[begin], x.file(1, 0, 1));
            DUE.is("left out on the way to level 2", 0, x.compact());
            DUE.is("size on level 2", 3 - leftOut[begin], x.file(2, 0, 1));
        }
    }

    /** "HORIZON (the least begin of open transactions". */
    private static void horizonIsTheLeastBegin() {
        VersionedRows x = threeVersions(1, 2, 3);
        DUE.is("horizon of 1, 2, 3", 1, x.about(1));
        DUE.is("left out", 0, x.compact());
        x = threeVersions(3, 2);
        DUE.is("horizon of 2, 3", 2, x.about(1));
        DUE.is("left out", 1, x.compact());
        x = threeVersions(1, 3);
        x.abort(1);
        DUE.is("horizon of 3", 3, x.about(1));
        DUE.is("left out", 2, x.compact());
    }

    /** "the last stamp if none is open)": ended ones do not count, however they ended. */
    private static void horizonIsTheLastStamp() {
        VersionedRows x = threeVersions();
        DUE.is("none", 3, x.about(1));
        DUE.is("left out with none", 2, x.compact());
        x = threeVersions(0, 1);
        x.commit(0);
        x.abort(2);
        DUE.is("committed and aborted", 3, x.about(1));
        DUE.is("left out", 2, x.compact());
        x = threeVersions(0, 1);
        x.crash();
        DUE.is("lost", 3, x.about(1));
        DUE.is("left out", 2, x.compact());
        x = threeVersions(0, 1);
        x.write(0, 6, 0, 0, 0);
        x.commit(0);
        x.commit(2);
        DUE.is("beaten", 3, x.state(0));
        DUE.is("horizon", 3, x.about(1));
        DUE.is("left out", 2, x.compact());
    }

    /** "and that one too, if it is dead and l + 1 is 2": not on the way to level 1. */
    private static void deadOnTheWayToLevelOne() {
        VersionedRows x = new VersionedRows();
        Steps.commitRemoval(x, 3);
        x.flush();
        DUE.is("to level 1", 0, x.compact());
        Steps.levels(DUE, "it stays", x, 0, 1, 0);
        DUE.is("to level 2", 1, x.compact());
        Steps.levels(DUE, "it is left out", x, 0, 0, 0);
    }

    /** Only the first at or below the horizon may go as a dead one; a dead one above it stays. */
    private static void deadAtAndAboveTheHorizon() {
        for (int begin = 0; begin <= 2; begin++) {
            VersionedRows x = new VersionedRows();
            if (begin == 0) {
                x.begin();
            }
            Steps.commitRows(x, 3, 3, 0);
            if (begin == 1) {
                x.begin();
            }
            Steps.commitRemoval(x, 3);
            if (begin == 2) {
                x.begin();
            }
            x.flush();
            DUE.is("horizon", begin, x.about(1));
            DUE.is("to level 1 with " + begin, begin == 2 ? 1 : 0, x.compact());
            DUE.is("to level 2 with " + begin, begin == 2 ? 1 : 0, x.compact());
            Steps.sizes(DUE, "begin " + begin, x, 2, 0, begin == 2 ? 0 : 2);
        }
    }

    private static void liveOnTheWayToLevelTwo() {
        VersionedRows x = new VersionedRows();
        Steps.commitRemoval(x, 3);
        Steps.commitRows(x, 3, 3, 0);
        toLevelOne(x);
        DUE.is("a live one stays", 0, x.compact());
        Steps.file(DUE, x, 2, 0, 3, 1, 0, 0, 3);
        Steps.commitRemoval(x, 3);
        toLevelOne(x);
        DUE.is("a dead one and the live one that it hides", 2, x.compact());
        Steps.levels(DUE, "no file", x, 0, 0, 0);
    }

    /** "What is left goes in order into new files on level l + 1 (none, if nothing is left)". */
    private static void nothingIsLeft() {
        VersionedRows x = new VersionedRows();
        for (int key = 0; key < 5; key++) {
            Steps.commitRemoval(x, key);
        }
        toLevelOne(x);
        Steps.file(DUE, x, 1, 0, 2, 5, 0, 0, 0, 0, 0, 4);
        DUE.is("all are left out", 5, x.compact());
        Steps.levels(DUE, "none", x, 0, 0, 0);
        Steps.sizes(DUE, "none", x, 5, 0, 0);
        DUE.is("no file to compact", -1, x.compact());
        Steps.commitRows(x, 0, 0, 0);
        x.flush();
        Steps.file(DUE, x, 0, 0, 3, 1, 0, 0, 0);
    }

    /** "a file is full when it has 12 entries or more and the next entry has not the same .." */
    private static void twelveEntriesAreFull() {
        for (int rows = 1; rows <= 32; rows++) {
            VersionedRows x = new VersionedRows();
            Steps.commitRows(x, 0, rows - 1, 0);
            DUE.is("one file of level 0 for all", rows < 20 ? rows : 0, x.flush());
            DUE.is("its size", rows, x.file(0, 0, 1));
            x.compact();
            int files = (rows + 11) / 12;
            DUE.is("files for " + rows, files, x.files(1));
            for (int k = 0; k < files; k++) {
                int size = k < files - 1 ? 12 : rows - 12 * (files - 1);
                Steps.file(DUE, x, 1, k, 2 + k, size, 0, 0, 12 * k, 0, 0, 12 * k + size - 1);
            }
        }
    }

    /** The 12th entry and those behind it of the same space, value and key stay together. */
    private static void samePlaceGoesOn() {
        for (int again = 0; again <= 12; again++) {
            VersionedRows x = new VersionedRows();
            x.begin();
            Steps.commitRows(x, 0, 12, 0);
            for (int i = 1; i <= 3; i++) {
                Steps.commitRows(x, again, again, 40 * i);
            }
            toLevelOne(x);
            // the 12th entry is of key 8, or of `again` if that is 9 .. 11, or else of key 11
            int last = again <= 8 ? 8 : Math.min(again, 11);
            int size = again <= last ? last + 4 : last + 1;
            String what = "16 entries, 4 of them of key " + again;
            DUE.is(what, 2, x.files(1));
            Steps.file(DUE, x, 1, 0, 2, size, 0, 0, 0, 0, 0, last);
            Steps.file(DUE, x, 1, 1, 3, 16 - size, 0, 0, last + 1, 0, 0, 12);
        }
    }

    /** Only what is left counts for a full file. */
    private static void leftOutDoesNotFill() {
        VersionedRows x = new VersionedRows();
        Steps.commitRows(x, 0, 11, 0);
        Steps.commitRows(x, 3, 5, 50);
        x.flush();
        DUE.is("three are left out", 3, x.compact());
        Steps.levels(DUE, "one file of 12", x, 0, 1, 0);
        Steps.file(DUE, x, 1, 0, 2, 12, 0, 0, 0, 0, 0, 11);
    }

    /** "They are ordered by space, value, key, and, for the same three, by falling stamps." */
    private static void orderBySpaceValueKey() {
        VersionedRows x = Steps.withIndexes(Steps.NUMBER, Steps.NAME);
        int[] numbers = {Integer.MAX_VALUE, 0, -1, Integer.MIN_VALUE, 0, 1};
        int t = x.begin();
        for (int key = 0; key < 6; key++) {
            x.write(t, key, numbers[key], 0, key < 3 ? 1458 : 729);
        }
        x.commit(t);
        toLevelOne(x);
        // rows 0 .. 5; numbers of keys 3, 2, 1, 4, 5, 0 | names of keys 3, 4, 5, 0, 1, 2
        Steps.file(DUE, x, 1, 0, 2, 12, 0, 0, 0, 1, Integer.MAX_VALUE, 0);
        Steps.file(DUE, x, 1, 1, 3, 6, 2, 729, 3, 2, 1458, 2);
        x.compact();
        x.compact();
        t = x.begin();
        x.write(t, 31, Integer.MIN_VALUE, 0, 0);
        x.commit(t);
        toLevelOne(x);
        x.compact();
        // 7 rows, numbers of keys 3, 31, 2, 1, 4 | 5, 0 and the name of 31, which is before all of file 5
        Steps.levels(DUE, "one of two met", x, 0, 0, 3);
        Steps.file(DUE, x, 2, 0, 5, 6, 2, 729, 3, 2, 1458, 2);
        Steps.file(DUE, x, 2, 1, 8, 12, 0, 0, 0, 1, 0, 4);
        Steps.file(DUE, x, 2, 2, 9, 3, 1, 1, 5, 2, 0, 31);
    }

    /** The value counts before the key, be the keys as far apart as can be. */
    private static void greatestKeyBeforeTheNextValue() {
        VersionedRows x = Steps.withIndexes(Steps.NUMBER);
        int t = x.begin();
        for (int key = 0; key < 12; key++) {
            write(x, t, key == 11 ? 31 : key, key == 11 ? -1 : 0);
        }
        x.commit(t);
        x.compact();
        Steps.file(DUE, x, 1, 0, 2, 12, 0, 0, 0, 0, 0, 31);
        Steps.file(DUE, x, 1, 1, 3, 12, 1, -1, 31, 1, 0, 10);
        Steps.sayAll(x, Steps.NUMBER, 0, Steps.CONST, -1, Steps.SAME, 0);
        DUE.is("the one with -1", 1, x.query(x.begin()));
        Steps.plan(DUE, "the one with -1", x, 0, 1, -1, -1);
        Steps.result(DUE, "the one with -1", x, 31);
    }

    /** "Compacts level 0 once if it has a file, else level 1 if that has one." */
    private static void levelZeroThenLevelOne() {
        VersionedRows x = new VersionedRows();
        for (int i = 0; i < 2; i++) {
            Steps.commitRows(x, 8 * i, 8 * i, 0);
            x.flush();
        }
        int[][] due = {{0, 1, 1, 0}, {0, 0, 2, 0}, {0, 0, 1, 1}, {0, 0, 0, 2}, {-1, 0, 0, 2}, {-1, 0, 0, 2}};
        for (int[] d : due) {
            DUE.is("compact", d[0], x.compact());
            Steps.levels(DUE, "compact", x, d[1], d[2], d[3]);
        }
    }

    /** "the file with the least number on it". */
    private static void leastNumberFirst() {
        VersionedRows x = new VersionedRows();
        x.begin();
        int[] keys = {9, 3, 6, 0};
        for (int key : keys) {
            Steps.commitRows(x, key, key, 0);
            x.flush();
        }
        for (int i = 0; i < 4; i++) {
            DUE.is("first of level 0", i + 1, x.file(0, 0, 0));
            x.compact();
            DUE.is("last of level 1", keys[i], x.file(1, i, 4));
        }
        for (int i = 0; i < 4; i++) {
            DUE.is("first of level 1", keys[i], x.file(1, 0, 4));
            x.compact();
            DUE.is("last of level 2", keys[i], x.file(2, i, 4));
        }
    }

    /** "a file has a number (1, 2, .. as they are made)". */
    private static void numbersAreNotUsedAgain() {
        VersionedRows x = new VersionedRows();
        for (int i = 0; i < 20; i++) {
            Steps.commitRows(x, 5, 5, i);
            x.flush();
            DUE.is("flush " + i, 2 * i + 1, x.file(0, 0, 0));
            DUE.is("merge " + i, i == 0 ? 0 : 1, x.compact());
            DUE.is("file of level 1", 2 * i + 2, x.file(1, 0, 0));
        }
    }

    /** "(A value may be -1, too.)" */
    private static void valueMayBeMinusOne() {
        VersionedRows x = Steps.withIndexes(Steps.NUMBER);
        int t = x.begin();
        write(x, t, 4, -1);
        x.commit(t);
        x.flush();
        Steps.file(DUE, x, 0, 0, 1, 2, 0, 0, 4, 1, -1, 4);
    }

    /** "How many files are on a level; NONE when there is no such level." */
    private static void levelsFrom0To2() {
        VersionedRows x = new VersionedRows();
        for (int i = 0; i < 3; i++) {
            Steps.commitRows(x, 10 * i, 10 * i, 0);
            x.flush();
            for (int down = i; down < 2; down++) {
                x.compact();
            }
        }
        Steps.levels(DUE, "one on each", x, 1, 1, 1);
        for (int level = 0; level <= 2; level++) {
            DUE.is("key on level " + level, 20 - 10 * level, x.file(level, 0, 4));
            DUE.is("no second on level " + level, -1, x.file(level, 1, 4));
        }
        DUE.is("level -1", -1, x.files(-1));
        DUE.is("level 3", -1, x.files(3));
        DUE.is("no file on level -1", -1, x.file(-1, 0, 0));
        DUE.is("no file on level 3", -1, x.file(3, 0, 0));
    }
}
