/** The edges that the document's terms name for expressions: wraps, comparisons, names, pile and nodes. */
public final class ExpressionEdgeTest {
    private static final Due DUE = new Due();
    private static final int LEAST = Integer.MIN_VALUE;
    private static final int GREATEST = Integer.MAX_VALUE;
    private static final int[] EXTREMES = {LEAST, LEAST + 1, -1, 0, 1, GREATEST - 1, GREATEST};
    /** Operation, first, second, and what is due. */
    private static final int[][] WRAPS = {
        {Steps.PLUS, GREATEST, 1, LEAST}, {Steps.PLUS, LEAST, -1, GREATEST}, {Steps.PLUS, GREATEST, GREATEST, -2},
        {Steps.PLUS, LEAST, LEAST, 0}, {Steps.PLUS, GREATEST, 0, GREATEST}, {Steps.PLUS, GREATEST, LEAST, -1},
        {Steps.MINUS, LEAST, 1, GREATEST}, {Steps.MINUS, GREATEST, -1, LEAST}, {Steps.MINUS, 0, LEAST, LEAST},
        {Steps.MINUS, -1, GREATEST, LEAST}, {Steps.MINUS, -2, GREATEST, GREATEST}, {Steps.MINUS, LEAST, LEAST, 0},
        {Steps.TIMES, GREATEST, 2, -2}, {Steps.TIMES, LEAST, -1, LEAST}, {Steps.TIMES, 65536, 65536, 0},
        {Steps.TIMES, 46341, 46341, -2147479015}, {Steps.TIMES, GREATEST, GREATEST, 1}, {Steps.TIMES, LEAST, LEAST, 0},
        {Steps.TIMES, 46340, 46340, 2147395600}};

    public static void main(String[] args) {
        arithmeticWraps();
        indexValuesWrap();
        comparisonsAtTheExtremes();
        firstIsBelowTheTop();
        boolsOfBools();
        startsOfAllNames();
        startsOfTheEmptyName();
        nCountsForConstAndStartsAlone();
        eightOnThePile();
        fifteenNodes();
        fifteenNodesAsAnIndex();
        DUE.end("ExpressionEdgeTest");
    }

    /** Whether a query is true of a row that alone is there. */
    private static boolean isTrue(int number, int flag, int name, int... query) {
        VersionedRows x = new VersionedRows();
        int t = x.begin();
        x.write(t, 0, number, flag, name);
        return Steps.sayAll(x, query) && x.query(t) == 1;
    }

    /** "4 PLUS, 5 MINUS, 6 TIMES: of two INTs an INT (wraps)". */
    private static void arithmeticWraps() {
        for (int[] w : WRAPS) {
            String what = w[1] + " op " + w[0] + " " + w[2];
            DUE.is(what, true, isTrue(0, 0, 0, 3, w[1], 3, w[2], w[0], 0, 3, w[3], 8, 0));
            DUE.is("NUMBER: " + what, true, isTrue(w[1], 0, 0, 0, 0, 3, w[2], w[0], 0, 3, w[3], 8, 0));
            DUE.is("NUMBER as the second: " + what, true, isTrue(w[2], 0, 0, 3, w[1], 0, 0, w[0], 0, 3, w[3], 8, 0));
            DUE.is("not another: " + what, false, isTrue(0, 0, 0, 3, w[1], 3, w[2], w[0], 0, 3, w[3] + 1, 8, 0));
        }
        DUE.is("a wrapped one is less", true, isTrue(GREATEST, 1, 0, 0, 0, 1, 0, 4, 0, 3, 0, 7, 0));
    }

    /** An index has the wrapped value, in its entries and for a plan. */
    private static void indexValuesWrap() {
        for (int[] w : WRAPS) {
            VersionedRows x = new VersionedRows();
            Steps.sayAll(x, Steps.NUMBER, 0, Steps.CONST, w[2], w[0], 0);
            DUE.is("index", 0, x.index());
            int t = x.begin();
            x.write(t, 9, w[1], 0, 0);
            x.commit(t);
            x.flush();
            Steps.file(DUE, x, 0, 0, 1, 2, 0, 0, 9, 1, w[3], 9);
            t = x.begin();
            Steps.sayAll(x, Steps.NUMBER, 0, Steps.CONST, w[2], w[0], 0, Steps.CONST, w[3], Steps.SAME, 0);
            DUE.is("query", 1, x.query(t));
            Steps.plan(DUE, "wrapped", x, 0, 1, w[3], w[3]);
        }
    }

    /** "7 LESS, 8 SAME: of two INTs a BOOL (x < y, x = y)". */
    private static void comparisonsAtTheExtremes() {
        for (int a : EXTREMES) {
            for (int b : EXTREMES) {
                DUE.is(a + " < " + b, a < b, isTrue(0, 0, 0, 3, a, 3, b, 7, 0));
                DUE.is("NUMBER " + a + " < " + b, a < b, isTrue(a, 0, 0, 0, 0, 3, b, 7, 0));
                DUE.is(a + " = " + b, a == b, isTrue(0, 0, 0, 3, a, 3, b, 8, 0));
                DUE.is("NUMBER " + a + " = " + b, a == b, isTrue(a, 0, 0, 0, 0, 3, b, 8, 0));
            }
        }
    }

    /** "Those of two take the one below the top as the first, the top as the second one." */
    private static void firstIsBelowTheTop() {
        DUE.is("5 - 3 = 2", true, isTrue(0, 0, 0, 3, 5, 3, 3, 5, 0, 3, 2, 8, 0));
        DUE.is("3 - 5 = -2", true, isTrue(0, 0, 0, 3, 3, 3, 5, 5, 0, 3, -2, 8, 0));
        DUE.is("3 < 5", true, isTrue(0, 0, 0, 3, 3, 3, 5, 7, 0));
        DUE.is("5 < 3", false, isTrue(0, 0, 0, 3, 5, 3, 3, 7, 0));
    }

    /** "9 AND, 10 OR: of two BOOLs a BOOL; 11 NOT: of a BOOL a BOOL". */
    private static void boolsOfBools() {
        for (int a = 0; a <= 1; a++) {
            for (int b = 0; b <= 1; b++) {
                int[] and = {3, a, 3, 1, 8, 0, 3, b, 3, 1, 8, 0, 9, 0};
                int[] or = {3, a, 3, 1, 8, 0, 3, b, 3, 1, 8, 0, 10, 0};
                DUE.is(a + " AND " + b, (a & b) == 1, isTrue(0, 0, 0, and));
                DUE.is(a + " OR " + b, (a | b) == 1, isTrue(0, 0, 0, or));
            }
            DUE.is("NOT " + a, a == 0, isTrue(0, 0, 0, 3, a, 3, 1, 8, 0, 11, 0));
        }
    }

    private static String[] textsOf(String letters) {
        StringBuilder texts = new StringBuilder("-");
        for (char a : letters.toCharArray()) {
            texts.append(' ').append(a);
            for (char b : letters.toCharArray()) {
                texts.append(' ').append(a).append(b);
                for (char c : letters.toCharArray()) {
                    texts.append(' ').append(a).append(b).append(c);
                }
            }
        }
        String[] all = texts.toString().split(" ");
        all[0] = "";
        return all;
    }

    private static int nameOf(String text) {
        int name = 0;
        int[] weights = {729, 27, 1};
        for (int i = 0; i < text.length(); i++) {
            name += (text.charAt(i) - 'a' + 1) * weights[i];
        }
        return name;
    }

    /** "12 STARTS n: a BOOL, whether the row's name begins with the letters of name n". */
    private static void startsOfAllNames() {
        String[] texts = textsOf("abz");
        DUE.is("ab is 1 * 729 + 2 * 27", 783, nameOf("ab"));
        for (String text : texts) {
            for (String start : texts) {
                DUE.is("'" + text + "' starts with '" + start + "'", text.startsWith(start),
                        isTrue(0, 0, nameOf(text), Steps.STARTS, nameOf(start)));
            }
        }
    }

    /** "(with none of the empty one: true)". */
    private static void startsOfTheEmptyName() {
        for (int name : new int[] {0, 729, 18954, 756, 19656, 757, 19682}) {
            DUE.is("the empty one of " + name, true, isTrue(0, 0, name, Steps.STARTS, 0));
        }
        DUE.is("a of the empty one", false, isTrue(0, 0, 0, Steps.STARTS, 729));
    }

    /** "n counts for CONST (any int) and STARTS (a name) alone". */
    private static void nCountsForConstAndStartsAlone() {
        for (int n : new int[] {LEAST, -1, 1, 28, 19683, GREATEST}) {
            int[] query = {0, n, 1, n, 4, n, 2, n, 5, n, 3, 5, 6, n, 3, 10, 8, n, 11, n, 12, 0, 9, n, 12, 729, 10, n};
            DUE.is("all operations with n " + n, true, isTrue(7, 1, 0, query));
            DUE.is("CONST " + n, true, isTrue(n, 0, 0, 0, 0, 3, n, 8, 0));
            DUE.is("LESS with n " + n, true, isTrue(0, 0, 0, 3, 1, 3, 2, 7, n));
        }
    }

    /** "a PILE of at most 8": with all eight there, only what takes some off can come. */
    private static void eightOnThePile() {
        VersionedRows x = new VersionedRows();
        int t = x.begin();
        x.write(t, 0, 0, 0, 0);
        for (int i = 1; i <= 8; i++) {
            DUE.is("CONST " + i, true, x.say(Steps.CONST, i));
            DUE.is("there are", i, x.about(4));
        }
        DUE.is("a ninth", false, x.say(Steps.CONST, 9));
        for (int i = 7; i >= 1; i--) {
            DUE.is("MINUS", true, x.say(Steps.MINUS, 0));
            DUE.is("there are", i, x.about(4));
        }
        // 1 - (2 - (3 - .. (7 - 8))) is -4, and has 15 nodes
        DUE.is("the value as an index", 0, x.index());
        x.commit(t);
        x.flush();
        Steps.file(DUE, x, 0, 0, 1, 2, 0, 0, 0, 1, -4, 0);
        for (int i = 1; i <= 8; i++) {
            DUE.is("BOOL " + i, true, x.say(Steps.STARTS, 0));
        }
        DUE.is("a ninth BOOL", false, x.say(Steps.STARTS, 0));
        DUE.is("NOT of the eighth", true, x.say(Steps.NOT, 0));
        DUE.is("AND of two", true, x.say(Steps.AND, 0));
        DUE.is("an eighth again", true, x.say(Steps.NAME, 0));
        DUE.is("no ninth again", false, x.say(Steps.NAME, 0));
        DUE.is("eight", 8, x.about(4));
    }

    private static void sayChain(VersionedRows x, int leaf, int op, int nodes) {
        x.say(leaf, 0);
        for (int i = 1; i < nodes; i += 2) {
            x.say(leaf, 0);
            x.say(op, 0);
        }
    }

    /** "with at most 15 NODES": 7 and 7 and one are 15. */
    private static void fifteenNodes() {
        for (int op = Steps.PLUS; op <= Steps.OR; op++) {
            boolean ofInts = op <= Steps.SAME;
            int leaf = ofInts ? Steps.NUMBER : Steps.STARTS;
            int part = ofInts ? Steps.PLUS : Steps.AND;
            VersionedRows x = new VersionedRows();
            sayChain(x, leaf, part, 7);
            sayChain(x, leaf, part, 7);
            DUE.is(op + " of 7 and 7", true, x.say(op, 0));
            x = new VersionedRows();
            sayChain(x, leaf, part, 7);
            sayChain(x, leaf, part, 9);
            DUE.is(op + " of 7 and 9", false, x.say(op, 0));
            x = new VersionedRows();
            sayChain(x, leaf, part, 13);
            x.say(leaf, 0);
            DUE.is(op + " of 13 and 1", true, x.say(op, 0));
            x = new VersionedRows();
            x.say(leaf, 0);
            sayChain(x, leaf, part, 13);
            DUE.is(op + " of 1 and 13", true, x.say(op, 0));
        }
        VersionedRows x = new VersionedRows();
        sayChain(x, Steps.STARTS, Steps.AND, 13);
        DUE.is("NOT of 13", true, x.say(Steps.NOT, 0));
        DUE.is("NOT of 14", true, x.say(Steps.NOT, 0));
        DUE.is("NOT of 15", false, x.say(Steps.NOT, 0));
        x = new VersionedRows();
        sayChain(x, Steps.STARTS, Steps.AND, 7);
        x.say(Steps.NOT, 0);
        sayChain(x, Steps.STARTS, Steps.AND, 7);
        DUE.is("AND of 8 and 7, which makes 16", false, x.say(Steps.AND, 0));
    }

    /** An index of 15 nodes has no place in a query, one of 13 just has. */
    private static void fifteenNodesAsAnIndex() {
        VersionedRows x = new VersionedRows();
        sayChain(x, Steps.NUMBER, Steps.PLUS, 15);
        DUE.is("of 15", 0, x.index());
        sayChain(x, Steps.NUMBER, Steps.PLUS, 13);
        DUE.is("of 13", 1, x.index());
        Steps.commitRows(x, 3, 3, 7);
        DUE.is("three entries", 3, x.flush());
        Steps.file(DUE, x, 0, 0, 1, 3, 0, 0, 3, 2, 70, 3);
        int t = x.begin();
        sayChain(x, Steps.NUMBER, Steps.PLUS, 15);
        x.say(Steps.CONST, 1);
        DUE.is("LESS of 15 and 1", false, x.say(Steps.LESS, 0));
        x.say(Steps.LESS, 0);
        DUE.is("both are there", 2, x.about(4));
        sayChain(x, Steps.NUMBER, Steps.PLUS, 13);
        x.say(Steps.CONST, 71);
        DUE.is("LESS of 13 and 1", true, x.say(Steps.LESS, 0));
        DUE.is("query", 1, x.query(t));
        Steps.plan(DUE, "of 13", x, 1, 1, LEAST, 70);
    }
}
