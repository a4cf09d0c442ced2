/** The edges that the document names for queries, their plans, candidates and results. */
public final class PlanEdgeTest {
    private static final Due DUE = new Due();
    private static final int LEAST = Integer.MIN_VALUE;
    private static final int GREATEST = Integer.MAX_VALUE;
    private static final int[] NUMBERS = {LEAST, LEAST + 1, -2, -1, 0, 1, 2, GREATEST - 1, GREATEST};

    public static void main(String[] args) {
        boundsOfEveryForm();
        boundsAreLongs();
        candidatesFromLowToHigh();
        lowIsTheGreatestAndHighTheLeast();
        lowAboveHigh();
        fourConjuncts();
        noConjunctSaysAnything();
        veryTheSameExpression();
        twoFormsAtOnce();
        leastWidthOfAll();
        widthsAreLongs();
        sameWidth();
        saidWithoutNarrowing();
        candidatesAreOfTheBegin();
        resultBeyondTheCandidates();
        emptyResultAndFullResult();
        resultIsOfTheLatestQuery();
        planBeforeTheFirstQuery();
        planMayBeMinusOne();
        DUE.end("PlanEdgeTest");
    }

    /** Row k has number k of NUMBERS; transaction 1 is open. */
    private static VersionedRows withNumbers(VersionedRows x) {
        int t = x.begin();
        for (int key = 0; key < NUMBERS.length; key++) {
            x.write(t, key, NUMBERS[key], key % 2, 0);
        }
        x.commit(t);
        x.begin();
        return x;
    }

    private static void planned(VersionedRows x, String what, int[] query, long... plan) {
        DUE.is(what + ": said", true, Steps.sayAll(x, query));
        DUE.is(what + ": asked", true, x.query(1) >= 0);
        Steps.plan(DUE, what, x, plan[0], plan[1], plan[2], plan[3]);
    }

    private static int[] of(int... query) {
        return query;
    }

    private static int countOf(long low, long high) {
        int count = 0;
        for (int number : NUMBERS) {
            count += number >= low && number <= high ? 1 : 0;
        }
        return count;
    }

    /** "LESS (E, CONST c) says that the value is at most c - 1, LESS (CONST c, E) at least c + 1, SAME .. both c". */
    private static void boundsOfEveryForm() {
        for (int c : NUMBERS) {
            VersionedRows x = withNumbers(Steps.withIndexes(Steps.NUMBER));
            long below = (long) c - 1;
            long above = (long) c + 1;
            planned(x, "E < " + c, of(0, 0, 3, c, 7, 0), 0, countOf(LEAST, below), LEAST, below);
            planned(x, c + " < E", of(3, c, 0, 0, 7, 0), 0, countOf(above, GREATEST), above, GREATEST);
            planned(x, "E = " + c, of(0, 0, 3, c, 8, 0), 0, 1, c, c);
            planned(x, c + " = E", of(3, c, 0, 0, 8, 0), 0, 1, c, c);
        }
    }

    /** "c - 1 and c + 1 are meant as longs, and so are LOW and HIGH". */
    private static void boundsAreLongs() {
        VersionedRows x = withNumbers(Steps.withIndexes(Steps.NUMBER));
        planned(x, "E < the least", of(0, 0, 3, LEAST, 7, 0), 0, 0, LEAST, -2147483649L);
        DUE.is("nothing is less", -1, x.result(0));
        planned(x, "the greatest < E", of(3, GREATEST, 0, 0, 7, 0), 0, 0, 2147483648L, GREATEST);
        DUE.is("nothing is greater", -1, x.result(0));
        int[] both = {0, 0, 3, LEAST, 7, 0, 3, GREATEST, 0, 0, 7, 0, 9, 0};
        planned(x, "both", both, 0, 0, 2147483648L, -2147483649L);
    }

    /** "with a value from LOW to HIGH": both ends are within. */
    private static void candidatesFromLowToHigh() {
        for (int low : NUMBERS) {
            VersionedRows x = withNumbers(Steps.withIndexes(Steps.NUMBER));
            for (int high : NUMBERS) {
                if (low > LEAST && high < GREATEST) {
                    int[] query = {3, low - 1, 0, 0, 7, 0, 0, 0, 3, high + 1, 7, 0, 9, 0};
                    planned(x, low + " .. " + high, query, 0, countOf(low, high), low, high);
                }
            }
        }
    }

    /** "LOW is the greatest of the least values so said .., HIGH the least of the greatest". */
    private static void lowIsTheGreatestAndHighTheLeast() {
        VersionedRows x = withNumbers(Steps.withIndexes(Steps.NUMBER));
        planned(x, "-3 < E, 0 < E", of(3, -3, 0, 0, 7, 0, 3, 0, 0, 0, 7, 0, 9, 0), 0, 4, 1, GREATEST);
        planned(x, "0 < E, -3 < E", of(3, 0, 0, 0, 7, 0, 3, -3, 0, 0, 7, 0, 9, 0), 0, 4, 1, GREATEST);
        planned(x, "E < 0, E < 2", of(0, 0, 3, 0, 7, 0, 0, 0, 3, 2, 7, 0, 9, 0), 0, 4, LEAST, -1);
        planned(x, "E < 2, E < 0", of(0, 0, 3, 2, 7, 0, 0, 0, 3, 0, 7, 0, 9, 0), 0, 4, LEAST, -1);
        planned(x, "E = 1, E < 9", of(0, 0, 3, 1, 8, 0, 0, 0, 3, 9, 7, 0, 9, 0), 0, 1, 1, 1);
        planned(x, "-9 < E, 1 = E", of(3, -9, 0, 0, 7, 0, 3, 1, 0, 0, 8, 0, 9, 0), 0, 1, 1, 1);
    }

    private static void lowAboveHigh() {
        VersionedRows x = withNumbers(Steps.withIndexes(Steps.NUMBER));
        planned(x, "E = 1, E = -1", of(0, 0, 3, 1, 8, 0, 0, 0, 3, -1, 8, 0, 9, 0), 0, 0, 1, -1);
        planned(x, "1 < E, E < 1", of(3, 1, 0, 0, 7, 0, 0, 0, 3, 1, 7, 0, 9, 0), 0, 0, 2, 0);
        planned(x, "0 < E, E < 1", of(3, 0, 0, 0, 7, 0, 0, 0, 3, 1, 7, 0, 9, 0), 0, 0, 1, 0);
        planned(x, "0 < E, E < 2", of(3, 0, 0, 0, 7, 0, 0, 0, 3, 2, 7, 0, 9, 0), 0, 1, 1, 1);
    }

    /** As many conjuncts of a form as 15 nodes hold, in each shape of their three ANDs. */
    private static void fourConjuncts() {
        int[][] each = {{3, -3, 0, 0, 7, 0}, {0, 0, 3, 9, 7, 0}, {3, -2, 0, 0, 7, 0}, {0, 0, 3, 2, 7, 0}};
        int[][] shapes = {{0, 1, -1, 2, -1, 3, -1}, {0, 1, 2, 3, -1, -1, -1}, {0, 1, -1, 2, 3, -1, -1},
            {0, 1, 2, -1, -1, 3, -1}, {0, 1, 2, -1, 3, -1, -1}};
        for (int[] shape : shapes) {
            VersionedRows x = withNumbers(Steps.withIndexes(Steps.NUMBER));
            for (int part : shape) {
                DUE.is("said", true, Steps.sayAll(x, part < 0 ? of(9, 0) : each[part]));
            }
            DUE.is("result", 3, x.query(1));
            Steps.plan(DUE, "four conjuncts", x, 0, 3, -1, 1);
        }
    }

    /** "its CONJUNCTS are, for an AND, those of its two parts, else itself": none within OR and NOT. */
    private static void noConjunctSaysAnything() {
        VersionedRows x = withNumbers(Steps.withIndexes(Steps.NUMBER));
        int all = NUMBERS.length;
        planned(x, "OR", of(0, 0, 3, 1, 8, 0, 0, 0, 3, 2, 8, 0, 10, 0), -1, all, 0, 0);
        planned(x, "NOT", of(0, 0, 3, 1, 8, 0, 11, 0), -1, all, 0, 0);
        planned(x, "NOT of AND", of(0, 0, 3, 1, 8, 0, 12, 0, 9, 0, 11, 0), -1, all, 0, 0);
        planned(x, "STARTS", of(12, 0), -1, all, 0, 0);
        planned(x, "E < E", of(0, 0, 0, 0, 7, 0), -1, all, 0, 0);
        planned(x, "1 = 1", of(3, 1, 3, 1, 8, 0), -1, all, 0, 0);
        planned(x, "FLAG = 1", of(1, 0, 3, 1, 8, 0), -1, all, 0, 0);
        planned(x, "OR, and E < 1", of(12, 0, 12, 0, 10, 0, 0, 0, 3, 1, 7, 0, 9, 0), 0, 5, LEAST, 0);
    }

    /** "(the same operations, with the same n of CONST, in the same order)". */
    private static void veryTheSameExpression() {
        VersionedRows x = new VersionedRows();
        Steps.sayAll(x, 0, 0, 3, 2, 6, 0);
        x.index();
        withNumbers(x);
        int all = NUMBERS.length;
        // twice 1 is 2, and so is, by the wrap, twice the least int but one
        planned(x, "NUMBER * 2 = 2", of(0, 0, 3, 2, 6, 0, 3, 2, 8, 0), 0, 2, 2, 2);
        planned(x, "with other n that do not count", of(0, 7, 3, 2, 6, 8, 3, 2, 8, 9), 0, 2, 2, 2);
        planned(x, "2 * NUMBER = 2", of(3, 2, 0, 0, 6, 0, 3, 2, 8, 0), -1, all, 0, 0);
        planned(x, "NUMBER * 3 = 2", of(0, 0, 3, 3, 6, 0, 3, 2, 8, 0), -1, all, 0, 0);
        planned(x, "NUMBER + 2 = 2", of(0, 0, 3, 2, 4, 0, 3, 2, 8, 0), -1, all, 0, 0);
        planned(x, "FLAG * 2 = 2", of(1, 0, 3, 2, 6, 0, 3, 2, 8, 0), -1, all, 0, 0);
        planned(x, "NUMBER = 2", of(0, 0, 3, 2, 8, 0), -1, all, 0, 0);
        planned(x, "NUMBER * 2 = 1 + 1", of(0, 0, 3, 2, 6, 0, 3, 1, 3, 1, 4, 0, 8, 0), -1, all, 0, 0);
    }

    /** "(it may be of two forms at once, and says both then)". */
    private static void twoFormsAtOnce() {
        for (int c : new int[] {LEAST, -1, 0, 5, GREATEST}) {
            VersionedRows x = new VersionedRows();
            x.say(Steps.CONST, c);
            x.index();
            withNumbers(x);
            planned(x, c + " < " + c, of(3, c, 3, c, 7, 0), 0, 0, (long) c + 1, (long) c - 1);
            DUE.is("no result", -1, x.result(0));
            planned(x, c + " = " + c, of(3, c, 3, c, 8, 0), 0, NUMBERS.length, c, c);
            DUE.is("all are the result", NUMBERS.length - 1, x.result(NUMBERS.length - 1));
        }
    }

    /** "that with the least HIGH - LOW is used". */
    private static void leastWidthOfAll() {
        int[] number = {3, -1, 0, 0, 7, 0, 0, 0, 3, 3, 7, 0, 9, 0};
        int[] flag = {1, 0, 3, 1, 8, 0};
        int[] and = {9, 0};
        for (int place = 0; place < 3; place++) {
            int[] fields = {Steps.NUMBER, Steps.NUMBER, Steps.NUMBER};
            fields[place] = Steps.FLAG;
            VersionedRows x = withNumbers(Steps.withIndexes(fields));
            Steps.sayAll(x, number);
            Steps.sayAll(x, flag);
            planned(x, "FLAG is index " + place, and, place, 4, 1, 1);
            Steps.sayAll(x, flag);
            Steps.sayAll(x, number);
            planned(x, "FLAG is index " + place + ", said first", and, place, 4, 1, 1);
            planned(x, "NUMBER alone", number, place == 0 ? 1 : 0, 3, 0, 2);
        }
    }

    /** As ints some of these widths would be below 0. */
    private static void widthsAreLongs() {
        VersionedRows x = withNumbers(Steps.withIndexes(Steps.NUMBER, Steps.FLAG));
        int[] wide = {0, 0, 3, GREATEST, 7, 0, 1, 0, 3, 1, 8, 0, 9, 0};
        planned(x, "E < the greatest, FLAG = 1", wide, 1, 4, 1, 1);
        int[] half = {3, LEAST, 0, 0, 7, 0, 1, 0, 3, -1, 7, 0, 9, 0};
        planned(x, "the least < E, FLAG < -1", half, 1, 0, LEAST, -2);
        int[] crossed = {0, 0, 3, LEAST, 7, 0, 3, GREATEST, 0, 0, 7, 0, 9, 0, 1, 0, 3, 1, 8, 0, 9, 0};
        planned(x, "a width far below 0", crossed, 0, 0, 2147483648L, -2147483649L);
    }

    /** "of several the least one". */
    private static void sameWidth() {
        VersionedRows x = withNumbers(Steps.withIndexes(Steps.NAME, Steps.NUMBER, Steps.FLAG));
        int[] flagFirst = {1, 0, 3, 0, 8, 0, 0, 0, 3, 1, 8, 0, 9, 0};
        planned(x, "FLAG = 0, NUMBER = 1", flagFirst, 1, 1, 1, 1);
        int[] three = {1, 0, 3, 0, 8, 0, 0, 0, 3, 1, 8, 0, 9, 0, 2, 0, 3, 0, 8, 0, 9, 0};
        planned(x, "and NAME = 0", three, 0, NUMBERS.length, 0, 0);
        x = withNumbers(Steps.withIndexes(Steps.NUMBER, Steps.NUMBER, Steps.NUMBER));
        planned(x, "three of the same", of(0, 0, 3, 1, 8, 0), 0, 1, 1, 1);
    }

    /** An index of which something is said is used, however wide it is. */
    private static void saidWithoutNarrowing() {
        VersionedRows x = withNumbers(Steps.withIndexes(Steps.FLAG, Steps.NUMBER));
        planned(x, "E < the greatest", of(0, 0, 3, GREATEST, 7, 0), 1, 8, LEAST, GREATEST - 1L);
        planned(x, "the least < E", of(3, LEAST, 0, 0, 7, 0), 1, 8, LEAST + 1L, GREATEST);
    }

    /** "the keys of what is there in its space at the begin". */
    private static void candidatesAreOfTheBegin() {
        VersionedRows x = withNumbers(Steps.withIndexes(Steps.NUMBER));
        int t = x.begin();
        x.write(t, 5, 0, 0, 0);
        x.remove(t, 4);
        x.write(t, 20, 0, 0, 0);
        x.write(t, 21, 0, 0, 0);
        x.commit(t);
        planned(x, "by index as of stamp 1", of(0, 0, 3, 0, 8, 0), 0, 1, 0, 0);
        Steps.result(DUE, "as of stamp 1", x, 4);
        planned(x, "all as of stamp 1", of(12, 0), -1, 9, 0, 0);
        int late = x.begin();
        Steps.sayAll(x, 0, 0, 3, 0, 8, 0);
        DUE.is("query as of stamp 2", 3, x.query(late));
        Steps.plan(DUE, "as of stamp 2", x, 0, 3, 0, 0);
        Steps.result(DUE, "as of stamp 2", x, 5, 20, 21);
        x.say(Steps.STARTS, 0);
        DUE.is("all as of stamp 2", 10, x.query(late));
        Steps.plan(DUE, "all as of stamp 2", x, -1, 10, 0, 0);
    }

    /** "(what it writes itself may be among these and no candidate)". */
    private static void resultBeyondTheCandidates() {
        VersionedRows x = withNumbers(Steps.withIndexes(Steps.NUMBER));
        x.write(1, 31, 0, 0, 0);
        x.write(1, 0, 0, 0, 0);
        x.remove(1, 4);
        planned(x, "E = 0", of(0, 0, 3, 0, 8, 0), 0, 1, 0, 0);
        Steps.result(DUE, "own writes, rising", x, 0, 31);
        x.abort(1);
        VersionedRows empty = Steps.withIndexes(Steps.NUMBER);
        int t = empty.begin();
        for (int key = 31; key >= 0; key--) {
            empty.write(t, key, 0, 0, 0);
        }
        Steps.sayAll(empty, 0, 0, 3, 0, 8, 0);
        DUE.is("all by itself", 32, empty.query(t));
        Steps.plan(DUE, "all by itself", empty, 0, 0, 0, 0);
    }

    /** "Key i (from 0) of the latest result; NONE when there is none." */
    private static void emptyResultAndFullResult() {
        VersionedRows x = new VersionedRows();
        Steps.commitRows(x, 0, 31, 0);
        int t = x.begin();
        x.say(Steps.STARTS, 0);
        DUE.is("all", 32, x.query(t));
        for (int i = -2; i <= 34; i++) {
            DUE.is("result(" + i + ") of all", i >= 0 && i < 32 ? i : -1, x.result(i));
        }
        x.say(Steps.STARTS, 729);
        DUE.is("none", 0, x.query(t));
        for (int i = -2; i <= 34; i++) {
            DUE.is("result(" + i + ") of none", -1, x.result(i));
        }
        Steps.plan(DUE, "candidates without a result", x, -1, 32, 0, 0);
    }

    /** A later query's result takes the place of the one before; ends of transactions do not matter. */
    private static void resultIsOfTheLatestQuery() {
        VersionedRows x = withNumbers(Steps.withIndexes(Steps.NUMBER));
        planned(x, "E < 0", of(0, 0, 3, 0, 7, 0), 0, 4, LEAST, -1);
        Steps.result(DUE, "E < 0", x, 0, 1, 2, 3);
        planned(x, "E = 2", of(0, 0, 3, 2, 8, 0), 0, 1, 2, 2);
        Steps.result(DUE, "E = 2", x, 6);
        DUE.is("nothing of the one before", -1, x.result(3));
        Steps.commitRemoval(x, 6);
        x.flush();
        x.compact();
        x.abort(1);
        Steps.result(DUE, "E = 2 later", x, 6);
        Steps.plan(DUE, "E = 2 later", x, 0, 1, 2, 2);
    }

    /** "before the first query 0: NONE, 1 to 3: 0". */
    private static void planBeforeTheFirstQuery() {
        VersionedRows x = new VersionedRows();
        Steps.plan(DUE, "new", x, -1, 0, 0, 0);
        x = withNumbers(Steps.withIndexes(Steps.NUMBER));
        Steps.sayAll(x, 0, 0, 3, 0, 8, 0);
        Steps.plan(DUE, "before a query", x, -1, 0, 0, 0);
        DUE.is("refused", -1, x.query(0));
        Steps.plan(DUE, "behind a refused query", x, -1, 0, 0, 0);
        DUE.is("no result", -1, x.result(0));
        DUE.is("query", 1, x.query(1));
        Steps.plan(DUE, "behind a query", x, 0, 1, 0, 0);
    }

    /** "(LOW and HIGH may be -1, too.)" */
    private static void planMayBeMinusOne() {
        VersionedRows x = withNumbers(Steps.withIndexes(Steps.NUMBER));
        planned(x, "E = -1", of(0, 0, 3, -1, 8, 0), 0, 1, -1, -1);
        planned(x, "-2 < E", of(3, -2, 0, 0, 7, 0), 0, 6, -1, GREATEST);
        planned(x, "E < 0", of(0, 0, 3, 0, 7, 0), 0, 4, LEAST, -1);
        DUE.is("plan(4)", -1, x.plan(4));
        DUE.is("plan(-1)", -1, x.plan(-1));
    }
}
