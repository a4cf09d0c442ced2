import java.util.List;
import java.util.function.Supplier;

/**
 * "A call that is refused (NONE, false) changes nothing." Every reason to refuse that the document names:
 * the answer, and that all that later calls show is as on an object that was not asked.
 */
public final class RefusedTest {
    private static final Due DUE = new Due();
    private static final int LEAST = Integer.MIN_VALUE;
    private static final int GREATEST = Integer.MAX_VALUE;

    /** The transactions of the object that rich() makes. */
    private static final int COMMITTED = 0;
    private static final int ABORTED = 1;
    private static final int LOST = 2;
    private static final int BEATEN = 3;
    private static final int LATE = 4;
    private static final int EMPTY = 6;
    private static final int WRITER = 7;
    private static final int NEXT = 9;
    private static final int[] NOT_OPEN = {
        LEAST, -1, COMMITTED, ABORTED, LOST, BEATEN, NEXT, 59, 60, GREATEST};
    private static final int[] NO_KEYS = {LEAST, -1, 32, 33, GREATEST};
    private static final int[] NO_NAMES = {
        LEAST, -1, 1, 26, 27, 28, 702, 728, 730, 755, 18955, 18980, 19683, GREATEST};

    public static void main(String[] args) {
        everyCallOnANewObject();
        sayNoOperation();
        sayWithoutItsParts();
        sayOfOtherTypes();
        sayNoName();
        sayNinthOnThePile();
        saySixteenthNode();
        indexOfAnEmptyPile();
        indexOfABool();
        indexTheFourth();
        indexBehindABatch();
        beginTheSixthOpen();
        beginTheSixtyFirst();
        readOfOneThatIsNotOpen();
        readOfNoKey();
        readOfNoField();
        writeOfOneThatIsNotOpen();
        writeOfNoKey();
        writeOfNoFlag();
        writeOfNoName();
        removeOfOneThatIsNotOpen();
        removeOfNoKey();
        queryOfOneThatIsNotOpen();
        queryWithoutATop();
        queryOfAnInt();
        commitOfOneThatIsNotOpen();
        commitWithoutRoom();
        tearOfOneThatIsNotOpen();
        tearWithoutWrites();
        tearOfOneThatWouldBeBeaten();
        tearWithoutRoom();
        tearBelowZero();
        abortOfOneThatIsNotOpen();
        compactWithoutAFile();
        compactOfTheLastLevel();
        resultOfNoKey();
        planOfAnotherWhat();
        stateOfNone();
        aboutAnotherWhat();
        aboutNoTop();
        filesOfNoLevel();
        fileThatIsNot();
        fileOfAnotherWhat();
        DUE.end("RefusedTest");
    }

    private static void refused(String why, Supplier<Run> object, long answer, String call, int... args) {
        Run asked = object.get();
        String text = why + ": " + Run.textOf(call, args);
        DUE.is(text, answer, asked.call(call, args));
        DUE.is(text + " again", answer, asked.call(call, args));
        List<String> due = object.get().lookThrough();
        List<String> got = asked.lookThrough();
        DUE.is(text + " changes nothing" + firstDifference(due, got), true, due.equals(got));
    }

    private static String firstDifference(List<String> due, List<String> got) {
        for (int i = 0; i < due.size() && i < got.size(); i++) {
            if (!due.get(i).equals(got.get(i))) {
                return ", but later " + got.get(i) + " instead of " + due.get(i);
            }
        }
        return "";
    }

    /** Files on all levels, entries in memory, transactions in all states, three open ones, a result and a plan. */
    private static Run rich() {
        Run run = new Run();
        run.say(Steps.NUMBER, 0).call("index");
        run.say(Steps.FLAG, 0).call("index");
        run.committed(0, 5, 10);
        run.call("flush");
        run.call("compact");
        run.call("compact");
        run.call("abort", run.writer(1, 1, 0));
        run.writer(2, 2, 0);
        run.call("crash");
        run.writer(3, 3, 0);
        run.writer(5, 5, 0);
        run.committed(3, 5, 20);
        run.call("flush");
        run.call("commit", BEATEN);
        run.call("begin");
        run.writer(1, 2, 30);
        run.call("remove", WRITER, 0);
        run.committed(31, 31, 0);
        run.say(Steps.NUMBER, 0, Steps.CONST, 13, Steps.LESS, 0).call("query", EMPTY);
        return run;
    }

    private static Run richWithBool() {
        return rich().say(Steps.FLAG, 0, Steps.CONST, 2, Steps.NUMBER, 0, Steps.LESS, 0);
    }

    private static Run richWithInt() {
        return rich().say(Steps.STARTS, 729, Steps.NUMBER, 0, Steps.FLAG, 0, Steps.PLUS, 0);
    }

    /** 499 entries; transaction 4 would add two and 5 none. */
    private static Run almostFull() {
        Run run = new Run();
        for (int i = 0; i < 3; i++) {
            run.say(Steps.NUMBER, 0).call("index");
        }
        run.call("begin");
        run.committed(0, 31, 100);
        run.committed(0, 31, 200);
        run.committed(0, 20, 300);
        run.writer(0, 1, 300);
        run.call("begin");
        return run;
    }

    /** "No rows, indexes, files, transactions; an empty pile; no result." */
    private static void everyCallOnANewObject() {
        for (int op = Steps.PLUS; op <= Steps.NOT; op++) {
            refused("new", Run::new, 0, "say", op, 0);
        }
        refused("new", Run::new, -1, "index");
        refused("new", Run::new, -1, "read", 0, 0, 0);
        refused("new", Run::new, 0, "write", 0, 0, 0, 0, 0);
        refused("new", Run::new, 0, "remove", 0, 0);
        refused("new", Run::new, -1, "query", 0);
        refused("new", Run::new, -1, "commit", 0);
        refused("new", Run::new, -1, "tear", 0, 1);
        refused("new", Run::new, 0, "abort", 0);
        refused("new", Run::new, -1, "compact");
        refused("new", Run::new, -1, "result", 0);
        refused("new", Run::new, -1, "plan", 0);
        refused("new", Run::new, -1, "state", 0);
        refused("new", Run::new, -1, "about", 5);
        for (int level = 0; level <= 2; level++) {
            refused("new", Run::new, -1, "file", level, 0, 0);
        }
        refused("new", Run::new, 0, "flush");
        refused("new", Run::new, 0, "crash");
    }

    /** "op is not 0 .. 12". */
    private static void sayNoOperation() {
        for (int op : new int[] {LEAST, -2, -1, 13, 14, GREATEST}) {
            refused("no operation", Run::new, 0, "say", op, 0);
            refused("no operation", RefusedTest::richWithBool, 0, "say", op, 729);
            refused("no operation", RefusedTest::richWithInt, 0, "say", op, 729);
        }
    }

    /** "those it needs are not there". */
    private static void sayWithoutItsParts() {
        for (int op = Steps.PLUS; op <= Steps.NOT; op++) {
            refused("an empty pile", RefusedTest::rich, 0, "say", op, 0);
        }
        for (int op = Steps.PLUS; op <= Steps.SAME; op++) {
            refused("one INT", () -> rich().say(Steps.NUMBER, 0), 0, "say", op, 0);
        }
        for (int op = Steps.AND; op <= Steps.OR; op++) {
            refused("one BOOL", () -> rich().say(Steps.STARTS, 729), 0, "say", op, 0);
        }
    }

    /** "or not of the types". */
    private static void sayOfOtherTypes() {
        int[] number = {Steps.NUMBER, 0};
        int[] starts = {Steps.STARTS, 729};
        for (int op = Steps.PLUS; op <= Steps.SAME; op++) {
            refused("BOOL, BOOL", () -> rich().say(starts).say(starts), 0, "say", op, 0);
            refused("INT, BOOL", () -> rich().say(number).say(starts), 0, "say", op, 0);
            refused("BOOL, INT", () -> rich().say(starts).say(number), 0, "say", op, 0);
        }
        for (int op = Steps.AND; op <= Steps.OR; op++) {
            refused("INT, INT", () -> rich().say(number).say(number), 0, "say", op, 0);
            refused("INT, BOOL", () -> rich().say(number).say(starts), 0, "say", op, 0);
            refused("BOOL, INT", () -> rich().say(starts).say(number), 0, "say", op, 0);
        }
        refused("INT", () -> rich().say(number), 0, "say", Steps.NOT, 0);
        refused("BOOL, INT", () -> rich().say(starts).say(number), 0, "say", Steps.NOT, 0);
    }

    /** "n is no name (STARTS)". */
    private static void sayNoName() {
        for (int name : NO_NAMES) {
            refused("no name", RefusedTest::richWithBool, 0, "say", Steps.STARTS, name);
        }
    }

    private static Run fullPile() {
        int[] eight = {Steps.STARTS, 0, Steps.STARTS, 729, Steps.STARTS, 756, Steps.STARTS, 757,
            Steps.NUMBER, 0, Steps.FLAG, 0, Steps.NAME, 0, Steps.CONST, 5};
        return rich().say(eight);
    }

    /** "there would be more than 8 on the pile". */
    private static void sayNinthOnThePile() {
        for (int op : new int[] {Steps.NUMBER, Steps.FLAG, Steps.NAME, Steps.CONST, Steps.STARTS}) {
            refused("a ninth", RefusedTest::fullPile, 0, "say", op, 0);
        }
    }

    private static Run withNots(int nodes) {
        Run run = rich().say(Steps.STARTS, 729);
        for (int i = 1; i < nodes; i++) {
            run.say(Steps.NOT, 0);
        }
        return run;
    }

    private static Run plusSum(Run run, int nodes) {
        run.say(Steps.NUMBER, 0);
        for (int i = 1; i < nodes; i += 2) {
            run.say(Steps.FLAG, 0, Steps.PLUS, 0);
        }
        return run;
    }

    /** "or the new expression would have more than 15 nodes". */
    private static void saySixteenthNode() {
        refused("NOT of 15", () -> withNots(15), 0, "say", Steps.NOT, 0);
        for (int op = Steps.AND; op <= Steps.OR; op++) {
            refused("15 and 1", () -> withNots(15).say(Steps.STARTS, 0), 0, "say", op, 0);
            refused("14 and 1", () -> withNots(14).say(Steps.STARTS, 0), 0, "say", op, 0);
        }
        for (int op = Steps.PLUS; op <= Steps.SAME; op++) {
            refused("15 and 1", () -> plusSum(rich(), 15).say(Steps.CONST, 0), 0, "say", op, 0);
            refused("1 and 15", () -> plusSum(rich().say(Steps.CONST, 0), 15), 0, "say", op, 0);
            refused("9 and 7", () -> plusSum(plusSum(rich(), 9), 7), 0, "say", op, 0);
            refused("7 and 9", () -> plusSum(plusSum(rich(), 7), 9), 0, "say", op, 0);
        }
    }

    /** "there is none". */
    private static void indexOfAnEmptyPile() {
        refused("an empty pile", Run::new, -1, "index");
        Supplier<Run> behindAnother = () -> {
            Run run = new Run().say(Steps.NUMBER, 0);
            run.call("index");
            return run;
        };
        refused("an empty pile", behindAnother, -1, "index");
    }

    /** "or it is no INT". */
    private static void indexOfABool() {
        refused("a BOOL", () -> new Run().say(Steps.NUMBER, 0, Steps.STARTS, 0), -1, "index");
        int[] less = {Steps.FLAG, 0, Steps.NUMBER, 0, Steps.CONST, 1, Steps.LESS, 0};
        refused("a LESS", () -> new Run().say(less), -1, "index");
    }

    /** "there are 3 indexes". */
    private static void indexTheFourth() {
        Supplier<Run> three = () -> {
            Run run = new Run();
            for (int op = Steps.NUMBER; op <= Steps.NAME; op++) {
                run.say(op, 0).call("index");
            }
            run.writer(0, 2, 5);
            return run.say(Steps.CONST, 4);
        };
        refused("a fourth", three, -1, "index");
    }

    /** "or a batch has come into memory (the last stamp is above 0)". */
    private static void indexBehindABatch() {
        refused("behind batches", RefusedTest::richWithInt, -1, "index");
        Supplier<Run> inMemory = () -> {
            Run run = new Run();
            run.committed(0, 0, 5);
            return run.say(Steps.NUMBER, 0);
        };
        refused("a batch in memory", inMemory, -1, "index");
        Supplier<Run> torn = () -> {
            Run run = new Run();
            run.call("tear", run.writer(0, 0, 5), 2);
            return run.say(Steps.NUMBER, 0);
        };
        refused("a torn batch that is whole", torn, -1, "index");
        Supplier<Run> gone = () -> {
            Run run = new Run();
            run.call("remove", (int) run.call("begin"), 0);
            run.call("commit", 0);
            run.call("flush");
            run.call("compact");
            run.call("compact");
            return run.say(Steps.NUMBER, 0);
        };
        refused("a batch of which nothing is left", gone, -1, "index");
    }

    /** "5 are open". */
    private static void beginTheSixthOpen() {
        Supplier<Run> five = () -> {
            Run run = rich();
            run.call("begin");
            run.call("begin");
            return run;
        };
        refused("five are open", five, -1, "begin");
    }

    /** "or there were 60". */
    private static void beginTheSixtyFirst() {
        Supplier<Run> sixty = () -> {
            Run run = new Run();
            run.writer(0, 0, 5);
            for (int t = 1; t < 60; t++) {
                run.call("begin");
                run.call("abort", t);
            }
            return run;
        };
        refused("there were 60", sixty, -1, "begin");
    }

    /** "t is not OPEN". */
    private static void readOfOneThatIsNotOpen() {
        for (int t : NOT_OPEN) {
            refused("not open", RefusedTest::rich, -1, "read", t, 1, 3);
        }
    }

    /** "key is not 0 .. 31". */
    private static void readOfNoKey() {
        for (int key : NO_KEYS) {
            refused("no key", RefusedTest::rich, -1, "read", WRITER, key, 0);
            refused("no key", RefusedTest::rich, -1, "read", WRITER, key, 3);
        }
    }

    /** "field is not 0 .. 3". */
    private static void readOfNoField() {
        for (int field : new int[] {LEAST, -1, 4, 5, GREATEST}) {
            refused("no field", RefusedTest::rich, -1, "read", WRITER, 1, field);
            refused("no field of no row", RefusedTest::rich, -1, "read", WRITER, 20, field);
        }
    }

    /** "t is not OPEN". */
    private static void writeOfOneThatIsNotOpen() {
        for (int t : NOT_OPEN) {
            refused("not open", RefusedTest::rich, 0, "write", t, 1, 77, 0, 0);
        }
    }

    /** "key is not 0 .. 31". */
    private static void writeOfNoKey() {
        for (int key : NO_KEYS) {
            refused("no key", RefusedTest::rich, 0, "write", WRITER, key, 77, 0, 0);
            refused("no key", RefusedTest::rich, 0, "write", EMPTY, key, 77, 0, 0);
        }
    }

    /** "flag is not 0 or 1". */
    private static void writeOfNoFlag() {
        for (int flag : new int[] {LEAST, -1, 2, 3, GREATEST}) {
            refused("no flag", RefusedTest::rich, 0, "write", WRITER, 1, 77, flag, 0);
            refused("no flag", RefusedTest::rich, 0, "write", EMPTY, 1, 77, flag, 0);
        }
    }

    /** "or name is no name". */
    private static void writeOfNoName() {
        for (int name : NO_NAMES) {
            refused("no name", RefusedTest::rich, 0, "write", WRITER, 1, 77, 0, name);
            refused("no name", RefusedTest::rich, 0, "write", EMPTY, 1, 77, 0, name);
        }
    }

    /** "t is not OPEN". */
    private static void removeOfOneThatIsNotOpen() {
        for (int t : NOT_OPEN) {
            refused("not open", RefusedTest::rich, 0, "remove", t, 1);
        }
    }

    /** "or key is not 0 .. 31". */
    private static void removeOfNoKey() {
        for (int key : NO_KEYS) {
            refused("no key", RefusedTest::rich, 0, "remove", WRITER, key);
            refused("no key", RefusedTest::rich, 0, "remove", EMPTY, key);
        }
    }

    /** "t is not OPEN". */
    private static void queryOfOneThatIsNotOpen() {
        for (int t : NOT_OPEN) {
            refused("not open", RefusedTest::richWithBool, -1, "query", t);
        }
    }

    /** "or there is no top". */
    private static void queryWithoutATop() {
        refused("an empty pile", RefusedTest::rich, -1, "query", WRITER);
        refused("an empty pile", RefusedTest::rich, -1, "query", EMPTY);
    }

    /** "or it is no BOOL". */
    private static void queryOfAnInt() {
        refused("an INT", RefusedTest::richWithInt, -1, "query", WRITER);
        refused("an INT", () -> rich().say(Steps.CONST, 1), -1, "query", EMPTY);
    }

    /** "Refused (NONE): t is not OPEN." */
    private static void commitOfOneThatIsNotOpen() {
        for (int t : NOT_OPEN) {
            refused("not open", RefusedTest::rich, -1, "commit", t);
        }
    }

    /** "it is FULL: nothing happens, and it stays OPEN with its writes". */
    private static void commitWithoutRoom() {
        refused("501 entries", RefusedTest::almostFull, VersionedRows.FULL, "commit", 4);
    }

    /** "t is not OPEN". */
    private static void tearOfOneThatIsNotOpen() {
        for (int t : NOT_OPEN) {
            refused("not open", RefusedTest::rich, -1, "tear", t, 0);
            refused("not open", RefusedTest::rich, -1, "tear", t, 100);
        }
    }

    /** "has no writes". */
    private static void tearWithoutWrites() {
        for (int n : new int[] {0, 1, GREATEST}) {
            refused("no writes", RefusedTest::rich, -1, "tear", EMPTY, n);
        }
    }

    /** "would be BEATEN". */
    private static void tearOfOneThatWouldBeBeaten() {
        for (int n : new int[] {0, 1, GREATEST}) {
            refused("would be beaten", RefusedTest::rich, -1, "tear", LATE, n);
        }
    }

    /** "or FULL". */
    private static void tearWithoutRoom() {
        for (int n : new int[] {0, 2, 3, GREATEST}) {
            refused("would be full", RefusedTest::almostFull, -1, "tear", 4, n);
        }
    }

    /** "or n is below 0". */
    private static void tearBelowZero() {
        for (int n : new int[] {-1, -2, LEAST}) {
            refused("n below 0", RefusedTest::rich, -1, "tear", WRITER, n);
        }
    }

    /** "Refused: t is not OPEN." */
    private static void abortOfOneThatIsNotOpen() {
        for (int t : NOT_OPEN) {
            refused("not open", RefusedTest::rich, 0, "abort", t);
        }
    }

    /** "NONE when neither has." */
    private static void compactWithoutAFile() {
        Supplier<Run> memoryAlone = () -> {
            Run run = new Run();
            run.committed(0, 5, 5);
            run.writer(1, 1, 7);
            return run;
        };
        refused("memory alone", memoryAlone, -1, "compact");
    }

    /** Only level 0 and level 1 are compacted, so that files on level 2 do not count. */
    private static void compactOfTheLastLevel() {
        Supplier<Run> lastLevel = () -> {
            Run run = new Run();
            for (int i = 0; i < 3; i++) {
                run.committed(0, 2, 5 + i);
            }
            run.call("flush");
            run.call("compact");
            run.call("compact");
            run.committed(1, 1, 9);
            return run;
        };
        refused("level 2 alone", lastLevel, -1, "compact");
    }

    /** "NONE when there is none": the result of rich() has three keys. */
    private static void resultOfNoKey() {
        for (int i : new int[] {LEAST, -1, 3, 32, GREATEST}) {
            refused("no such key of the result", RefusedTest::rich, -1, "result", i);
        }
        refused("no result", Run::new, -1, "result", 0);
    }

    /** "NONE for another what". */
    private static void planOfAnotherWhat() {
        for (int what : new int[] {LEAST, -1, 4, GREATEST}) {
            refused("another what", RefusedTest::rich, -1, "plan", what);
            refused("another what before a query", Run::new, -1, "plan", what);
        }
    }

    /** "NONE when there is none". */
    private static void stateOfNone() {
        for (int t : new int[] {LEAST, -1, NEXT, 60, GREATEST}) {
            refused("no such transaction", RefusedTest::rich, -1, "state", t);
        }
    }

    /** "NONE for another what." */
    private static void aboutAnotherWhat() {
        for (int what : new int[] {LEAST, -1, 7, GREATEST}) {
            refused("another what", RefusedTest::rich, -1, "about", what);
        }
    }

    /** "NONE if there is none", of the top of the pile. */
    private static void aboutNoTop() {
        refused("an empty pile", RefusedTest::rich, -1, "about", 5);
    }

    /** "NONE when there is no such level." */
    private static void filesOfNoLevel() {
        for (int level : new int[] {LEAST, -1, 3, GREATEST}) {
            refused("no such level", RefusedTest::rich, -1, "files", level);
        }
    }

    /** "NONE when there is no such file": each level of rich() has one. */
    private static void fileThatIsNot() {
        for (int level : new int[] {LEAST, -1, 3, GREATEST}) {
            refused("no such level", RefusedTest::rich, -1, "file", level, 0, 0);
        }
        for (int k : new int[] {LEAST, -1, 1, 2, GREATEST}) {
            for (int level = 0; level <= 2; level++) {
                refused("no such file", RefusedTest::rich, -1, "file", level, k, 0);
            }
        }
    }

    /** "or what is not 0 .. 7". */
    private static void fileOfAnotherWhat() {
        for (int what : new int[] {LEAST, -1, 8, GREATEST}) {
            for (int level = 0; level <= 2; level++) {
                refused("another what", RefusedTest::rich, -1, "file", level, 0, what);
            }
        }
    }
}
