/** Short forms for runs of calls that the tests make again and again. */
final class Steps {
    static final int NUMBER = 0;
    static final int FLAG = 1;
    static final int NAME = 2;
    static final int CONST = 3;
    static final int PLUS = 4;
    static final int MINUS = 5;
    static final int TIMES = 6;
    static final int LESS = 7;
    static final int SAME = 8;
    static final int AND = 9;
    static final int OR = 10;
    static final int NOT = 11;
    static final int STARTS = 12;

    private Steps() {
    }

    /** Says op, n, op, n, .. and answers whether all were taken. */
    static boolean sayAll(VersionedRows x, int... opsAndNs) {
        boolean all = true;
        for (int i = 0; i < opsAndNs.length; i += 2) {
            all &= x.say(opsAndNs[i], opsAndNs[i + 1]);
        }
        return all;
    }

    /** A new object with one index for each INT field that is named. */
    static VersionedRows withIndexes(int... fields) {
        VersionedRows x = new VersionedRows();
        for (int field : fields) {
            x.say(field, 0);
            x.index();
        }
        return x;
    }

    /** Commits a row for each key from..to, its number the key plus a base; answers what commit did. */
    static int commitRows(VersionedRows x, int from, int to, int base) {
        int t = x.begin();
        for (int key = from; key <= to; key++) {
            x.write(t, key, base + key, 1, 0);
        }
        return x.commit(t);
    }

    static int commitRemoval(VersionedRows x, int key) {
        int t = x.begin();
        x.remove(t, key);
        return x.commit(t);
    }

    /** Checks that what can be seen of the store's size is as given: the last stamp, memory, files. */
    static void sizes(Due due, String when, VersionedRows x, int stamp, int memory, int inFiles) {
        due.is(when + ": last stamp", stamp, x.about(0));
        due.is(when + ": entries in memory", memory, x.about(2));
        due.is(when + ": entries in files", inFiles, x.about(3));
    }

    static void levels(Due due, String when, VersionedRows x, int on0, int on1, int on2) {
        due.is(when + ": level 0", on0, x.files(0));
        due.is(when + ": level 1", on1, x.files(1));
        due.is(when + ": level 2", on2, x.files(2));
    }

    /** Checks number, size, and space, value, key of the first and the last entry of a file. */
    static void file(Due due, VersionedRows x, int level, int k, int... all) {
        for (int what = 0; what < all.length; what++) {
            due.is("file(" + level + ", " + k + ", " + what + ")", all[what], x.file(level, k, what));
        }
    }

    static void result(Due due, String of, VersionedRows x, int... keys) {
        for (int i = 0; i < keys.length; i++) {
            due.is(of + ": result " + i, keys[i], x.result(i));
        }
        due.is(of + ": result behind the last", VersionedRows.NONE, x.result(keys.length));
    }

    static void plan(Due due, String of, VersionedRows x, long index, long candidates, long low, long high) {
        due.is(of + ": index", index, x.plan(0));
        due.is(of + ": candidates", candidates, x.plan(1));
        due.is(of + ": low", low, x.plan(2));
        due.is(of + ": high", high, x.plan(3));
    }
}
