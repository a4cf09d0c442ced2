/** Promises 1 to 3: a new object, say, index. */
public final class PileTest {
    private static final Due DUE = new Due();

    public static void main(String[] args) {
        promise1NewObject();
        promise2Leaves();
        promise2Types();
        promise2Names();
        promise2Limits();
        promise2Nodes();
        promise2RefusedChangesNothing();
        promise3Index();
        promise3AfterABatch();
        DUE.end("PileTest");
    }

    private static void promise1NewObject() {
        VersionedRows x = new VersionedRows();
        int[] about = {0, 0, 0, 0, 0, -1, 0};
        for (int what = 0; what < about.length; what++) {
            DUE.is("new: about(" + what + ")", about[what], x.about(what));
        }
        Steps.levels(DUE, "new", x, 0, 0, 0);
        Steps.plan(DUE, "new", x, -1, 0, 0, 0);
        DUE.is("new: result(0)", -1, x.result(0));
        DUE.is("new: state(0)", -1, x.state(0));
        DUE.is("new: file(0, 0, 0)", -1, x.file(0, 0, 0));
        DUE.is("new: compact", -1, x.compact());
        DUE.is("new: flush", 0, x.flush());
        DUE.is("new: crash", 0, x.crash());
        DUE.is("new: first transaction", 0, x.begin());
        for (int key = 0; key < 32; key++) {
            DUE.is("new: no row " + key, 0, x.read(0, key, 3));
        }
    }

    private static void promise2Leaves() {
        VersionedRows x = new VersionedRows();
        for (int op = 0; op <= 2; op++) {
            DUE.is("leaf " + op, true, x.say(op, Integer.MIN_VALUE));
            DUE.is("leaf " + op + " is an INT", 0, x.about(5));
        }
        DUE.is("CONST of the least", true, x.say(Steps.CONST, Integer.MIN_VALUE));
        DUE.is("CONST of the greatest", true, x.say(Steps.CONST, Integer.MAX_VALUE));
        DUE.is("STARTS", true, x.say(Steps.STARTS, 729));
        DUE.is("STARTS is a BOOL", 1, x.about(5));
        DUE.is("all are there", 6, x.about(4));
        DUE.is("op -1", false, x.say(-1, 0));
        DUE.is("op 13", false, x.say(13, 0));
        DUE.is("least op", false, x.say(Integer.MIN_VALUE, 0));
        DUE.is("greatest op", false, x.say(Integer.MAX_VALUE, 0));
    }

    private static void promise2Types() {
        for (int op = Steps.PLUS; op <= Steps.NOT; op++) {
            boolean takesInts = op <= Steps.SAME;
            boolean makesInt = op <= Steps.TIMES;
            int parts = op == Steps.NOT ? 1 : 2;
            DUE.is(op + " of nothing", false, new VersionedRows().say(op, 0));
            VersionedRows one = new VersionedRows();
            one.say(takesInts ? Steps.NUMBER : Steps.STARTS, 0);
            DUE.is(op + " of one", parts == 1, one.say(op, 0));
            DUE.is(op + " of one leaves one", 1, one.about(4));
            for (int types = 0; types < 4; types++) {
                VersionedRows x = new VersionedRows();
                boolean firstInt = (types & 1) == 0;
                boolean secondInt = (types & 2) == 0;
                x.say(firstInt ? Steps.NUMBER : Steps.STARTS, 0);
                x.say(secondInt ? Steps.CONST : Steps.STARTS, 0);
                boolean fits = secondInt == takesInts && (parts == 1 || firstInt == takesInts);
                DUE.is(op + " of types " + types, fits, x.say(op, 77));
                DUE.is(op + " of types " + types + " on the pile", fits ? 3 - parts : 2, x.about(4));
                DUE.is(op + " of types " + types + " on top", (fits ? makesInt : secondInt) ? 0 : 1, x.about(5));
            }
        }
    }

    private static void promise2Names() {
        VersionedRows x = new VersionedRows();
        int[] names = {0, 729, 756, 757, 783, 18954, 19656, 19682};
        for (int name : names) {
            DUE.is("STARTS " + name, true, x.say(Steps.STARTS, name));
        }
        x = new VersionedRows();
        int[] no = {-1, 1, 26, 27, 28, 728, 730, 755, 1459, 19683, 19710, Integer.MAX_VALUE, Integer.MIN_VALUE};
        for (int name : no) {
            DUE.is("STARTS " + name, false, x.say(Steps.STARTS, name));
            DUE.is("CONST " + name, true, x.say(Steps.CONST, name) && x.say(Steps.STARTS, 0));
            DUE.is("FLAG with n " + name, true, new VersionedRows().say(Steps.FLAG, name));
            x = new VersionedRows();
        }
    }

    private static void promise2Limits() {
        VersionedRows x = new VersionedRows();
        for (int i = 1; i <= 8; i++) {
            DUE.is("number " + i + " on the pile", true, x.say(i == 8 ? Steps.STARTS : Steps.NUMBER, 0));
        }
        DUE.is("a ninth", false, x.say(Steps.FLAG, 0));
        DUE.is("a ninth CONST", false, x.say(Steps.CONST, 0));
        DUE.is("a ninth STARTS", false, x.say(Steps.STARTS, 0));
        DUE.is("eight are there", 8, x.about(4));
        DUE.is("NOT on a full pile", true, x.say(Steps.NOT, 0));
        DUE.is("still eight", 8, x.about(4));
    }

    private static void promise2Nodes() {
        VersionedRows x = new VersionedRows();
        x.say(Steps.STARTS, 0);
        for (int nodes = 2; nodes <= 15; nodes++) {
            DUE.is("NOT to " + nodes + " nodes", true, x.say(Steps.NOT, 0));
        }
        DUE.is("NOT to 16 nodes", false, x.say(Steps.NOT, 0));
        DUE.is("a leaf beside it", true, x.say(Steps.STARTS, 0));
        DUE.is("AND of 15 and 1", false, x.say(Steps.AND, 0));
        DUE.is("both stay", 2, x.about(4));

        x = new VersionedRows();
        x.say(Steps.NUMBER, 0);
        for (int nodes = 3; nodes <= 15; nodes += 2) {
            x.say(Steps.CONST, nodes);
            DUE.is("PLUS to " + nodes + " nodes", true, x.say(Steps.PLUS, 0));
        }
        x.say(Steps.CONST, 1);
        DUE.is("PLUS to 17 nodes", false, x.say(Steps.PLUS, 0));
        DUE.is("LESS to 17 nodes", false, x.say(Steps.LESS, 0));

        x = new VersionedRows();
        Steps.sayAll(x, 3, 1, 3, 2, 4, 0, 3, 3, 4, 0, 3, 4, 4, 0, 3, 1, 3, 2, 4, 0, 3, 3, 4, 0, 3, 4, 4, 0);
        DUE.is("SAME of 7 and 7 nodes", true, x.say(Steps.SAME, 0));
    }

    private static void promise2RefusedChangesNothing() {
        VersionedRows x = new VersionedRows();
        Steps.sayAll(x, Steps.CONST, 3, Steps.STARTS, 0);
        DUE.is("PLUS of INT and BOOL", false, x.say(Steps.PLUS, 0));
        DUE.is("AND of INT and BOOL", false, x.say(Steps.AND, 0));
        DUE.is("no name", false, x.say(Steps.STARTS, 28));
        DUE.is("no operation", false, x.say(13, 0));
        DUE.is("the two stay", 2, x.about(4));
        DUE.is("the BOOL on top", 1, x.about(5));
        DUE.is("no transaction for the query", -1, x.query(0));
        x.begin();
        DUE.is("the BOOL is a query", 0, x.query(0));
        DUE.is("then the INT is on top", 0, x.about(5));
    }

    private static void promise3Index() {
        VersionedRows x = new VersionedRows();
        DUE.is("an index of an empty pile", -1, x.index());
        x.say(Steps.STARTS, 0);
        DUE.is("an index of a BOOL", -1, x.index());
        DUE.is("it stays", 1, x.about(4));
        for (int i = 0; i < 3; i++) {
            x.say(Steps.NUMBER, 0);
            DUE.is("index " + i, i, x.index());
            DUE.is("taken off the pile", 1, x.about(4));
            DUE.is("how many indexes", i + 1, x.about(6));
        }
        x.say(Steps.NUMBER, 0);
        DUE.is("a fourth index", -1, x.index());
        DUE.is("stays on the pile", 2, x.about(4));
        DUE.is("three indexes", 3, x.about(6));
    }

    private static void promise3AfterABatch() {
        VersionedRows x = new VersionedRows();
        int t = x.begin();
        x.write(t, 1, 5, 0, 0);
        int empty = x.begin();
        x.commit(empty);
        x.say(Steps.NUMBER, 0);
        DUE.is("after an empty commit, with writes under way", 0, x.index());
        x.say(Steps.FLAG, 0);
        DUE.is("a torn commit in pieces", 0, x.tear(t, 1));
        DUE.is("after a torn commit that came to nothing", 1, x.index());
        Steps.commitRows(x, 1, 1, 0);
        DUE.is("entries of both indexes", 3, x.about(2));
        x.say(Steps.NAME, 0);
        DUE.is("after a batch", -1, x.index());
        x.flush();
        DUE.is("after its flush", -1, x.index());
        DUE.is("two indexes", 2, x.about(6));
        DUE.is("the third is on the pile", 1, x.about(4));

        x = new VersionedRows();
        t = x.begin();
        x.write(t, 1, 5, 0, 0);
        DUE.is("a torn commit that is whole", 1, x.tear(t, 2));
        x.say(Steps.NUMBER, 0);
        DUE.is("after a torn commit that was whole", -1, x.index());
    }
}
