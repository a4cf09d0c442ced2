import java.util.ArrayDeque;
import java.util.Arrays;

/** Makes runs of calls from a number: the same number always makes the same run. */
final class Walk {
    record Call(String name, int... args) {
        @Override
        public String toString() {
            String list = Arrays.toString(args);
            return name + "(" + list.substring(1, list.length() - 1) + ")";
        }
    }

    /** Expressions of type INT as op, n, op, n, .. that the indexes and queries of a run are made from. */
    private static final int[][] INTS = {
        {0, 0}, {1, 0}, {2, 0}, {3, 5}, {3, -1}, {3, Integer.MIN_VALUE}, {0, 0, 1, 0, 6, 0}, {0, 0, 3, 1, 4, 0},
        {3, 1, 0, 0, 4, 0}, {2, 0, 3, 27, 5, 0}, {0, 0, 2, 0, 5, 0}, {0, 0, 0, 0, 6, 0}, {0, 7, 3, 5, 4, 9},
        {0, 0, 1, 0, 4, 0, 2, 0, 6, 0}};
    private static final int[] NUMBERS = {0, 1, 2, 3, 5, -1, -2, 7, 100, 729, 702, 27,
        Integer.MAX_VALUE, Integer.MIN_VALUE, Integer.MAX_VALUE - 1, Integer.MIN_VALUE + 1};
    private static final int[] NAMES = {0, 729, 756, 757, 783, 1458, 1485, 19682, 19656, 18954, 729 + 27 + 26};
    private static final int[] WRONG = {-1, -2, 3, 4, 5, 7, 8, 12, 13, 27, 28, 31, 32, 60, 754, 19683,
        Integer.MAX_VALUE, Integer.MIN_VALUE};

    private long seed;
    private final ArrayDeque<Call> ahead = new ArrayDeque<>();
    private final Model model;
    private final int keys;
    private final int numbers;
    private final int burst;
    private final boolean isHasty;
    private final int[][] subjects = new int[3][];

    Walk(long number, Model model) {
        this.seed = number * 0x9E3779B97F4A7C15L + 12345;
        this.model = model;
        keys = new int[] {2, 5, 12, 32}[below(4)];
        numbers = new int[] {3, NUMBERS.length, 1000}[below(3)];
        burst = new int[] {1, 3, 8, 40}[below(4)];
        isHasty = below(6) == 0;
        int indexes = below(4);
        for (int i = 0; i < 3; i++) {
            subjects[i] = INTS[below(INTS.length)];
            if (i < indexes) {
                push(subjects[i]);
                call("index");
            }
        }
        if (below(2) == 0) {
            call("begin");
        }
    }

    Call next() {
        for (int tries = 0; ahead.isEmpty(); tries++) {
            plan(tries);
        }
        return ahead.poll();
    }

    private int below(int bound) {
        seed = seed * 6364136223846793005L + 1442695040888963407L;
        return (int) ((seed >>> 33) % bound);
    }

    private void call(String name, int... args) {
        ahead.add(new Call(name, args));
    }

    private void push(int[] expression) {
        for (int i = 0; i < expression.length; i += 2) {
            call("say", expression[i], expression[i + 1]);
        }
    }

    private int number() {
        return numbers == 1000 ? below(1000) - 1 : NUMBERS[below(numbers)];
    }

    private int anyOpen() {
        int n = model.transactions.size();
        for (int tries = 0; tries < 40 && n > 0; tries++) {
            int t = Math.max(0, n - 1 - below(8));
            if (model.open(t) != null) {
                return t;
            }
        }
        return n == 0 ? 0 : below(n);
    }

    private void plan(int tries) {
        int dice = tries > 5 ? 99 : below(100);
        if (model.pile.size() > 5 && dice % 8 != 0) {
            drainPile();
        } else if (isHasty && dice % 2 == 0) {
            call("begin");
            call(dice % 4 == 0 ? "commit" : "abort", anyOpen());
        } else if (dice < 14) {
            call("begin");
        } else if (dice < 44) {
            writes();
        } else if (dice < 58) {
            query();
        } else if (dice < 64) {
            call(below(8) == 0 ? "abort" : "commit", anyOpen());
        } else if (dice < 66) {
            call(below(6) == 0 ? "crash" : "flush");
        } else if (dice < 71) {
            call("compact");
        } else if (dice < 73) {
            wrong();
        } else {
            look();
        }
    }

    private void writes() {
        int t = anyOpen();
        int many = 1 + below(burst);
        boolean isFresh = burst == 40 && model.countOpen() < 5 && model.transactions.size() < 60;
        if (isFresh) {
            t = model.transactions.size();
            call("begin");
        }
        for (int i = 0; i < many; i++) {
            int key = isFresh ? i % 32 : below(keys);
            if (below(6) == 0) {
                call("remove", t, key);
            } else {
                call("write", t, key, number(), below(2), NAMES[below(NAMES.length)]);
            }
        }
        int end = below(12);
        if (end == 0) {
            call("tear", t, below(2 * many + 3));
        } else if (end < 8) {
            call("commit", t);
        }
    }

    private void query() {
        int conjuncts = 1 + below(3);
        for (int i = 0; i < conjuncts; i++) {
            condition();
            if (i > 0) {
                call("say", below(5) == 0 ? 10 : 9, 0);
            }
        }
        if (below(8) == 0) {
            call("say", 11, 0);
        }
        call("query", anyOpen());
        call("plan", below(4));
        call("plan", 1 + below(3));
        call("result", below(4));
    }

    private void drainPile() {
        if (!model.pile.get(model.pile.size() - 1).bool()) {
            call("say", 3, number());
            call("say", 7, 0);
        }
        call("query", anyOpen());
    }

    private void condition() {
        if (below(6) == 0) {
            call("say", 12, NAMES[below(NAMES.length)]);
            return;
        }
        int[] subject = below(5) == 0 ? INTS[below(INTS.length)] : subjects[below(3)];
        int[] constant = {3, number()};
        boolean first = below(2) == 0;
        push(first ? subject : constant);
        push(first ? constant : subject);
        call("say", 7 + below(2), 0);
    }

    private void look() {
        int last = model.transactions.size();
        switch (below(9)) {
            case 0, 1 -> call("read", anyOpen(), below(keys), below(4));
            case 2 -> call("about", below(7));
            case 3 -> call("state", last == 0 ? 0 : below(last));
            case 4 -> call("files", below(3));
            case 5, 6, 7 -> file();
            default -> call("say", 3 + below(10), number());
        }
    }

    private void file() {
        int level = below(3);
        call("file", level, below(Math.max(1, model.on(level).size())), below(8));
    }

    private int any() {
        return below(3) == 0 ? WRONG[below(WRONG.length)] : below(4);
    }

    private void wrong() {
        switch (below(13)) {
            case 0 -> call("say", any(), any());
            case 1 -> call("read", any(), any(), any());
            case 2 -> call("write", any(), any(), any(), any(), any());
            case 3 -> call("remove", any(), any());
            case 4 -> call("query", any());
            case 5 -> call("commit", any());
            case 6 -> call("tear", any(), any());
            case 7 -> call("abort", any());
            case 8 -> call("result", any());
            case 9 -> call("plan", any());
            case 10 -> call("about", any());
            case 11 -> call("file", any(), any(), any());
            default -> call(below(2) == 0 ? "files" : "state", any());
        }
    }
}
