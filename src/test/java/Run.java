import java.util.ArrayList;
import java.util.List;

/** A new object whose calls are named by texts, told with their answers, and at most 512. */
final class Run {
    private static final int MOST_CALLS = 512;
    private static final int[] KEYS_LOOKED_AT = {0, 1, 2, 5, 31};

    private final VersionedRows x = new VersionedRows();
    private final List<String> told = new ArrayList<>();

    /** Answers as the call does, 1 or 0 for a boolean. */
    long call(String name, int... a) {
        if (told.size() == MOST_CALLS) {
            throw new IllegalStateException("a run of more than 512 calls");
        }
        long answer = switch (name) {
            case "say" -> x.say(a[0], a[1]) ? 1 : 0;
            case "index" -> x.index();
            case "begin" -> x.begin();
            case "read" -> x.read(a[0], a[1], a[2]);
            case "write" -> x.write(a[0], a[1], a[2], a[3], a[4]) ? 1 : 0;
            case "remove" -> x.remove(a[0], a[1]) ? 1 : 0;
            case "query" -> x.query(a[0]);
            case "commit" -> x.commit(a[0]);
            case "tear" -> x.tear(a[0], a[1]);
            case "abort" -> x.abort(a[0]) ? 1 : 0;
            case "flush" -> x.flush();
            case "compact" -> x.compact();
            case "crash" -> x.crash();
            case "result" -> x.result(a[0]);
            case "plan" -> x.plan(a[0]);
            case "state" -> x.state(a[0]);
            case "about" -> x.about(a[0]);
            case "files" -> x.files(a[0]);
            case "file" -> x.file(a[0], a[1], a[2]);
            default -> throw new IllegalArgumentException(name);
        };
        told.add(textOf(name, a) + " = " + answer);
        return answer;
    }

    static String textOf(String name, int... a) {
        StringBuilder text = new StringBuilder(name).append('(');
        for (int i = 0; i < a.length; i++) {
            text.append(i == 0 ? "" : ", ").append(a[i]);
        }
        return text.append(')').toString();
    }

    /** Says op, n, op, n, .. */
    Run say(int... opsAndNs) {
        for (int i = 0; i < opsAndNs.length; i += 2) {
            call("say", opsAndNs[i], opsAndNs[i + 1]);
        }
        return this;
    }

    /** A transaction that writes the keys from..to, each with its number the key plus a base. */
    int writer(int from, int to, int base) {
        int t = (int) call("begin");
        for (int key = from; key <= to; key++) {
            call("write", t, key, base + key, 1, 729);
        }
        return t;
    }

    /** Commits rows with the keys from..to; answers the transaction. */
    int committed(int from, int to, int base) {
        int t = writer(from, to, base);
        call("commit", t);
        return t;
    }

    /**
     * Shows what calls can show of the object: what is seen without a change, then what comes of the pile,
     * of the transactions, of memory and of the files. Two objects are alike when these texts are.
     */
    List<String> lookThrough() {
        int from = told.size();
        lookQuietly();
        call("index");
        call("begin");
        queryAllOfThePile();
        commitAll();
        lookQuietly();
        call("flush");
        call("compact");
        call("compact");
        // One that was FULL may find room now.
        call("commit", firstOpen());
        call("about", 0);
        call("about", 2);
        lookAtFiles();
        return told.subList(from, told.size());
    }

    private void lookQuietly() {
        for (int what = 0; what <= 6; what++) {
            call("about", what);
        }
        lookAtFiles();
        lookAtAnswer();
        long state = call("state", 0);
        for (int t = 0; state > 0; t++) {
            if (state == 1) {
                lookAtRows(t);
            }
            state = call("state", t + 1);
        }
    }

    private void lookAtFiles() {
        for (int level = 0; level <= 2; level++) {
            long files = call("files", level);
            for (int k = 0; k < files && k < 3; k++) {
                call("file", level, k, 0);
                call("file", level, k, 1);
            }
        }
    }

    private void lookAtAnswer() {
        for (int what = 0; what <= 3; what++) {
            call("plan", what);
        }
        for (int i = 0; call("result", i) >= 0; ) {
            i++;
        }
    }

    private void lookAtRows(int t) {
        for (int key : KEYS_LOOKED_AT) {
            call("read", t, key, 3);
            call("read", t, key, 0);
        }
    }

    private int firstOpen() {
        for (int t = 0; ; t++) {
            long state = call("state", t);
            if (state <= 1) {
                return state == 1 ? t : -1;
            }
        }
    }

    private void queryAllOfThePile() {
        int t = firstOpen();
        for (int i = 0; t >= 0 && i < 9 && call("about", 4) > 0; i++) {
            if (call("about", 5) == 0) {
                call("say", Steps.CONST, 12);
                call("say", Steps.LESS, 0);
            }
            call("query", t);
            lookAtAnswer();
        }
    }

    private void commitAll() {
        for (int t = 0; call("state", t) > 0; t++) {
            call("commit", t);
        }
    }

    @Override
    public String toString() {
        return String.join("\n", told);
    }
}
