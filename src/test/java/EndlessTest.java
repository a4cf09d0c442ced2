/** No call throws, for any arguments in any state, also far beyond the 512 calls an object is meant for. */
public final class EndlessTest {
    private static final int OBJECTS = 40;
    private static final int CALLS = 20000;
    private static final int[] ODD = {-2, -1, 32, 33, 59, 60, 61, 500, 729, 19682, 19683,
        Integer.MAX_VALUE, Integer.MIN_VALUE};

    private long seed = 1;

    public static void main(String[] args) {
        EndlessTest test = new EndlessTest();
        Due due = new Due();
        for (int i = 0; i < OBJECTS && !due.isWrong(); i++) {
            VersionedRows x = new VersionedRows();
            int calls = 0;
            try {
                for (; calls < CALLS; calls++) {
                    test.call(x, test.below(24));
                }
            } catch (RuntimeException thrown) {
                thrown.printStackTrace(System.out);
            }
            due.is("calls that object " + i + " took", CALLS, calls);
            due.is("entries", true, x.about(2) + x.about(3) <= 500);
        }
        due.end("EndlessTest");
    }

    private int below(int bound) {
        seed = seed * 6364136223846793005L + 1442695040888963407L;
        return (int) ((seed >>> 33) % bound);
    }

    private int any(int bound) {
        return below(30) == 0 ? ODD[below(ODD.length)] : below(bound);
    }

    private void call(VersionedRows x, int which) {
        switch (which) {
            case 0, 1, 2 -> x.say(any(13), any(3));
            case 3 -> x.index();
            case 4, 5 -> x.begin();
            case 6 -> x.read(any(60), any(32), any(4));
            case 7, 8, 9, 10 -> x.write(any(60), any(32), any(100), any(2), 729 * any(27));
            case 11 -> x.remove(any(60), any(32));
            case 12 -> x.query(any(60));
            case 13 -> x.commit(any(60));
            case 14 -> x.tear(below(50) == 0 ? any(60) : -1, any(9));
            case 15 -> x.abort(below(50) == 0 ? any(60) : -1);
            case 16 -> x.flush();
            case 17 -> x.compact();
            case 18 -> x.result(any(33));
            case 19 -> x.plan(any(5));
            case 20 -> x.state(any(61));
            case 21 -> x.about(any(8));
            case 22 -> x.files(any(4));
            default -> x.file(any(3), any(9), any(9));
        }
        if (below(4000) == 0) {
            x.crash();
        }
    }
}
