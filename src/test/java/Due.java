/** Compares answers with those that are due; a test ends by its end(). */
final class Due {
    private static final int SHOWN = 20;
    private int wrong;
    private int asked;

    void is(String what, long due, long got) {
        asked++;
        if (got != due) {
            wrong++;
            if (wrong <= SHOWN) {
                System.out.println(what + " answered " + got + ", due is " + due);
            }
        }
    }

    void is(String what, boolean due, boolean got) {
        is(what, due ? 1 : 0, got ? 1 : 0);
    }

    boolean isWrong() {
        return wrong > 0;
    }

    void end(String test) {
        System.out.println(test + ": " + asked + " answers, " + wrong + " not as due");
        if (wrong > 0 || asked == 0) {
            System.exit(1);
        }
    }
}
