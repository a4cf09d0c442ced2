import java.util.ArrayList;
import java.util.Arrays;
import java.util.Comparator;
import java.util.HashMap;
import java.util.List;
import java.util.Map;
import java.util.TreeMap;
import java.util.TreeSet;

/**
 * The document read once more, as literally and plainly as can be, to compare the program with: texts
 * for names, postfix lists for expressions, a list of its own for memory and for every file.
 */
final class Model {
    record Row(int number, int flag, String name) { }

    record Place(int space, int value, int key) { }

    record Entry(Place place, int stamp, boolean live, Row row) { }

    record SortedFile(int number, int level, List<Entry> entries) {
        Place first() {
            return entries.get(0).place();
        }

        Place last() {
            return entries.get(entries.size() - 1).place();
        }
    }

    record Step(int op, int n) { }

    record Expression(List<Step> steps) {
        boolean bool() {
            return steps.get(steps.size() - 1).op() >= 7;
        }
    }

    static final class Transaction {
        int state = 1;
        int begin;
        final TreeMap<Integer, Row> writes = new TreeMap<>();
    }

    static final Comparator<Place> PLACES = Comparator.comparingInt(Place::space)
            .thenComparingInt(Place::value).thenComparingInt(Place::key);
    static final Comparator<Entry> ORDER = Comparator.comparing(Entry::place, PLACES)
            .thenComparing(Comparator.comparingInt(Entry::stamp).reversed());

    final List<Expression> pile = new ArrayList<>();
    final List<Expression> indexes = new ArrayList<>();
    final List<Transaction> transactions = new ArrayList<>();
    final List<Entry> memory = new ArrayList<>();
    final List<SortedFile> files = new ArrayList<>();
    int filesMade;
    int lastStamp;
    List<Integer> result = List.of();
    long[] plan = {-1, 0, 0, 0};

    /** How often the rarer things came about, for a test to see that its runs reach them. */
    final Map<String, Integer> happened = new TreeMap<>();

    static String text(int n) {
        if (n < 0 || n > 19682) {
            return null;
        }
        int[] digits = {n / 729, n / 27 % 27, n % 27};
        StringBuilder text = new StringBuilder();
        for (int i = 0; i < 3; i++) {
            if (digits[i] != 0) {
                if (text.length() != i) {
                    return null;
                }
                text.append((char) ('a' + digits[i] - 1));
            }
        }
        return text.toString();
    }

    static int number(String text) {
        int n = 0;
        for (int i = 0; i < 3; i++) {
            n = n * 27 + (i < text.length() ? text.charAt(i) - 'a' + 1 : 0);
        }
        return n;
    }

    static int arity(int op) {
        return op <= 3 || op == 12 ? 0 : op == 11 ? 1 : 2;
    }

    static long valueOf(Expression e, Row row) {
        ArrayList<Integer> stack = new ArrayList<>();
        for (Step s : e.steps()) {
            int y = arity(s.op()) > 0 ? stack.remove(stack.size() - 1) : 0;
            int x = arity(s.op()) > 1 ? stack.remove(stack.size() - 1) : 0;
            stack.add(switch (s.op()) {
                case 0 -> row.number();
                case 1 -> row.flag();
                case 2 -> number(row.name());
                case 3 -> s.n();
                case 4 -> x + y;
                case 5 -> x - y;
                case 6 -> x * y;
                case 7 -> x < y ? 1 : 0;
                case 8 -> x == y ? 1 : 0;
                case 9 -> x == 1 && y == 1 ? 1 : 0;
                case 10 -> x == 1 || y == 1 ? 1 : 0;
                case 11 -> 1 - y;
                default -> row.name().startsWith(text(s.n())) ? 1 : 0;
            });
        }
        return stack.get(0);
    }

    /** The parts of the last operation of an expression, the first one first. */
    static List<Expression> parts(Expression e) {
        List<Expression> found = new ArrayList<>();
        int end = e.steps().size() - 1;
        for (int part = arity(e.steps().get(end).op()); part > 0; part--) {
            int start = end;
            for (int missing = 1; missing > 0; ) {
                start--;
                missing += arity(e.steps().get(start).op()) - 1;
            }
            found.add(0, new Expression(e.steps().subList(start, end)));
            end = start;
        }
        return found;
    }

    static List<Expression> conjuncts(Expression e) {
        if (e.steps().get(e.steps().size() - 1).op() != 9) {
            return List.of(e);
        }
        List<Expression> all = new ArrayList<>();
        for (Expression part : parts(e)) {
            all.addAll(conjuncts(part));
        }
        return all;
    }

    void happens(String what) {
        happened.merge(what, 1, Integer::sum);
    }

    Transaction open(int t) {
        return t >= 0 && t < transactions.size() && transactions.get(t).state == 1 ? transactions.get(t) : null;
    }

    long countOpen() {
        return transactions.stream().filter(t -> t.state == 1).count();
    }

    int horizon() {
        return transactions.stream().filter(t -> t.state == 1).mapToInt(t -> t.begin).min().orElse(lastStamp);
    }

    List<Entry> allEntries() {
        List<Entry> all = new ArrayList<>(memory);
        files.forEach(f -> all.addAll(f.entries()));
        return all;
    }

    List<Entry> there(int stamp) {
        Map<Place, Entry> seen = new HashMap<>();
        for (Entry e : allEntries()) {
            if (e.stamp() <= stamp) {
                seen.merge(e.place(), e, (a, b) -> a.stamp() > b.stamp() ? a : b);
            }
        }
        return seen.values().stream().filter(Entry::live).toList();
    }

    TreeMap<Integer, Row> rowsAt(int stamp) {
        TreeMap<Integer, Row> rows = new TreeMap<>();
        there(stamp).stream().filter(e -> e.place().space() == 0).forEach(e -> rows.put(e.place().key(), e.row()));
        return rows;
    }

    TreeMap<Integer, Row> rowsFor(Transaction one) {
        TreeMap<Integer, Row> rows = rowsAt(one.begin);
        one.writes.forEach((key, row) -> {
            if (row == null) {
                rows.remove(key);
            } else {
                rows.put(key, row);
            }
        });
        return rows;
    }

    boolean beaten(Transaction one) {
        return allEntries().stream().anyMatch(e -> e.place().space() == 0
                && one.writes.containsKey(e.place().key()) && e.stamp() > one.begin);
    }

    List<Entry> batch(Transaction one) {
        TreeMap<Integer, Row> now = rowsAt(lastStamp);
        List<Entry> batch = new ArrayList<>();
        one.writes.forEach((key, row) -> {
            batch.add(new Entry(new Place(0, 0, key), lastStamp + 1, row != null, row));
            for (int i = 0; i < indexes.size(); i++) {
                Long before = now.containsKey(key) ? (Long) valueOf(indexes.get(i), now.get(key)) : null;
                Long after = row != null ? (Long) valueOf(indexes.get(i), row) : null;
                if (before != null && (after == null || !after.equals(before))) {
                    batch.add(new Entry(new Place(i + 1, before.intValue(), key), lastStamp + 1, false, null));
                }
                if (after != null && (before == null || !after.equals(before))) {
                    batch.add(new Entry(new Place(i + 1, after.intValue(), key), lastStamp + 1, true, null));
                }
            }
        });
        return batch;
    }

    boolean full(List<Entry> batch) {
        return allEntries().size() + batch.size() > 500;
    }

    void take(Transaction one, List<Entry> batch) {
        memory.addAll(batch);
        memory.sort(ORDER);
        lastStamp++;
        one.state = 2;
    }

    List<SortedFile> on(int level) {
        return files.stream().filter(f -> f.level() == level).toList();
    }

    void make(int level, List<Entry> entries) {
        filesMade++;
        files.add(new SortedFile(filesMade, level, entries));
    }

    int compactLevel(int level) {
        SortedFile least = on(level).get(0);
        List<SortedFile> gone = new ArrayList<>(List.of(least));
        for (SortedFile f : on(level + 1)) {
            if (PLACES.compare(f.last(), least.first()) >= 0 && PLACES.compare(least.last(), f.first()) >= 0) {
                gone.add(f);
            }
        }
        happens(gone.size() == on(level + 1).size() + 1 ? "all files met" : "files not met");
        files.removeAll(gone);
        TreeMap<Place, List<Entry>> byPlace = new TreeMap<>(PLACES);
        int before = 0;
        for (SortedFile f : gone) {
            before += f.entries().size();
            f.entries().forEach(e -> byPlace.computeIfAbsent(e.place(), p -> new ArrayList<>()).add(e));
        }
        List<Entry> current = new ArrayList<>();
        int after = 0;
        for (List<Entry> versions : byPlace.values()) {
            versions.sort(ORDER);
            List<Entry> left = leave(versions, level + 1);
            if (current.size() >= 12 && !left.isEmpty()) {
                make(level + 1, current);
                current = new ArrayList<>();
            }
            current.addAll(left);
            after += left.size();
        }
        if (!current.isEmpty()) {
            happens(current.size() > 12 ? "file above 12" : "file up to 12");
            make(level + 1, current);
        } else {
            happens("nothing left");
        }
        happens(before == after ? "nothing left out" : "left out to level " + (level + 1));
        return before - after;
    }

    List<Entry> leave(List<Entry> versions, int target) {
        List<Entry> left = new ArrayList<>();
        for (Entry e : versions) {
            if (e.stamp() > horizon()) {
                left.add(e);
                continue;
            }
            if (e.live() || target != 2) {
                left.add(e);
            } else {
                happens("dead one dropped");
            }
            break;
        }
        return left;
    }

    int crashNow() {
        int lost = 0;
        for (Transaction one : transactions) {
            if (one.state == 1) {
                one.state = 5;
                lost++;
            }
        }
        return lost;
    }

    public boolean say(int op, int n) {
        if (op < 0 || op > 12 || pile.size() < arity(op) || op == 12 && text(n) == null) {
            return false;
        }
        List<Expression> taken = pile.subList(pile.size() - arity(op), pile.size());
        boolean bools = op == 9 || op == 10 || op == 11;
        List<Step> steps = new ArrayList<>();
        for (Expression part : taken) {
            if (part.bool() != bools) {
                return false;
            }
            steps.addAll(part.steps());
        }
        steps.add(new Step(op, op == 3 || op == 12 ? n : 0));
        if (steps.size() > 15 || pile.size() - taken.size() + 1 > 8) {
            happens(steps.size() > 15 ? "too many nodes" : "too many on the pile");
            return false;
        }
        taken.clear();
        pile.add(new Expression(steps));
        return true;
    }

    public int index() {
        if (pile.isEmpty() || pile.get(pile.size() - 1).bool() || indexes.size() == 3 || lastStamp > 0) {
            return -1;
        }
        indexes.add(pile.remove(pile.size() - 1));
        return indexes.size() - 1;
    }

    public int begin() {
        if (countOpen() == 5 || transactions.size() == 60) {
            happens(transactions.size() == 60 ? "60 transactions" : "5 open");
            return -1;
        }
        Transaction one = new Transaction();
        one.begin = lastStamp;
        transactions.add(one);
        return transactions.size() - 1;
    }

    public int read(int t, int key, int field) {
        if (open(t) == null || key < 0 || key > 31 || field < 0 || field > 3) {
            return -1;
        }
        Row row = rowsFor(open(t)).get(key);
        return row == null ? 0 : new int[] {row.number(), row.flag(), number(row.name()), 1}[field];
    }

    public boolean write(int t, int key, int number, int flag, int name) {
        if (open(t) == null || key < 0 || key > 31 || flag < 0 || flag > 1 || text(name) == null) {
            return false;
        }
        open(t).writes.put(key, new Row(number, flag, text(name)));
        return true;
    }

    public boolean remove(int t, int key) {
        if (open(t) == null || key < 0 || key > 31) {
            return false;
        }
        open(t).writes.put(key, null);
        return true;
    }

    public int query(int t) {
        Transaction one = open(t);
        if (one == null || pile.isEmpty() || !pile.get(pile.size() - 1).bool()) {
            return -1;
        }
        Expression asked = pile.remove(pile.size() - 1);
        plan = new long[] {-1, 0, 0, 0};
        for (int i = 0; i < indexes.size(); i++) {
            long[] bounds = bounds(asked, indexes.get(i));
            if (bounds != null && (plan[0] < 0 || bounds[1] - bounds[0] < plan[3] - plan[2])) {
                plan = new long[] {i, 0, bounds[0], bounds[1]};
            }
        }
        TreeSet<Integer> candidates = new TreeSet<>();
        for (Entry e : there(one.begin)) {
            boolean within = plan[0] < 0 ? e.place().space() == 0
                    : e.place().space() == plan[0] + 1 && e.place().value() >= plan[2] && e.place().value() <= plan[3];
            if (within) {
                candidates.add(e.place().key());
            }
        }
        plan[1] = candidates.size();
        result = rowsFor(one).entrySet().stream().filter(r -> valueOf(asked, r.getValue()) == 1)
                .map(Map.Entry::getKey).toList();
        happens(plan[0] < 0 ? "plan without index" : "plan with index " + plan[0]);
        if (plan[0] >= 0 && !candidates.containsAll(result)) {
            happens("result beyond the candidates");
        }
        if (plan[0] >= 0 && plan[2] > plan[3]) {
            happens("empty range");
        }
        return result.size();
    }

    /** LOW and HIGH for an index, or null when no conjunct says anything of it. */
    static long[] bounds(Expression asked, Expression index) {
        List<Long> lows = new ArrayList<>();
        List<Long> highs = new ArrayList<>();
        for (Expression conjunct : conjuncts(asked)) {
            int op = conjunct.steps().get(conjunct.steps().size() - 1).op();
            if (op != 7 && op != 8) {
                continue;
            }
            Expression x = parts(conjunct).get(0);
            Expression y = parts(conjunct).get(1);
            if (x.equals(index) && isConst(y)) {
                long c = y.steps().get(0).n();
                highs.add(op == 7 ? c - 1 : c);
                lows.add(op == 7 ? Integer.MIN_VALUE : c);
            }
            if (y.equals(index) && isConst(x)) {
                long c = x.steps().get(0).n();
                lows.add(op == 7 ? c + 1 : c);
                highs.add(op == 7 ? Integer.MAX_VALUE : c);
            }
        }
        if (lows.isEmpty()) {
            return null;
        }
        lows.add((long) Integer.MIN_VALUE);
        highs.add((long) Integer.MAX_VALUE);
        return new long[] {lows.stream().mapToLong(v -> v).max().getAsLong(),
            highs.stream().mapToLong(v -> v).min().getAsLong()};
    }

    static boolean isConst(Expression e) {
        return e.steps().size() == 1 && e.steps().get(0).op() == 3;
    }

    public int commit(int t) {
        Transaction one = open(t);
        if (one == null) {
            return -1;
        }
        if (beaten(one)) {
            happens("beaten");
            one.state = 3;
            return -2;
        }
        if (one.writes.isEmpty()) {
            one.state = 2;
            return one.begin;
        }
        List<Entry> batch = batch(one);
        if (full(batch)) {
            happens("full");
            return -3;
        }
        take(one, batch);
        if (memory.size() >= 20) {
            flush();
            for (boolean again = true; again; ) {
                again = on(0).size() > 2 || on(1).size() > 3;
                if (again) {
                    happens(on(0).size() > 2 ? "level 0 overfull" : "level 1 overfull");
                    compactLevel(on(0).size() > 2 ? 0 : 1);
                }
            }
        }
        return lastStamp;
    }

    public int tear(int t, int n) {
        Transaction one = open(t);
        if (one == null || one.writes.isEmpty() || n < 0 || beaten(one) || full(batch(one))) {
            return -1;
        }
        List<Entry> batch = batch(one);
        boolean whole = n >= batch.size() + 1;
        happens(whole ? "tear whole" : "tear in pieces");
        if (whole) {
            take(one, batch);
        }
        crashNow();
        return whole ? 1 : 0;
    }

    public boolean abort(int t) {
        if (open(t) == null) {
            return false;
        }
        open(t).state = 4;
        return true;
    }

    public int flush() {
        int size = memory.size();
        if (size > 0) {
            make(0, new ArrayList<>(memory));
            memory.clear();
        }
        return size;
    }

    public int compact() {
        if (on(0).isEmpty() && on(1).isEmpty()) {
            return -1;
        }
        return compactLevel(on(0).isEmpty() ? 1 : 0);
    }

    public int crash() {
        return crashNow();
    }

    public int result(int i) {
        return i >= 0 && i < result.size() ? result.get(i) : -1;
    }

    public long plan(int what) {
        return what >= 0 && what <= 3 ? plan[what] : -1;
    }

    public int state(int t) {
        return t >= 0 && t < transactions.size() ? transactions.get(t).state : -1;
    }

    public int about(int what) {
        int top = pile.isEmpty() ? -1 : pile.get(pile.size() - 1).bool() ? 1 : 0;
        int[] all = {lastStamp, horizon(), memory.size(), allEntries().size() - memory.size(),
            pile.size(), top, indexes.size()};
        return what >= 0 && what <= 6 ? all[what] : -1;
    }

    public int files(int level) {
        return level >= 0 && level <= 2 ? on(level).size() : -1;
    }

    public int file(int level, int k, int what) {
        if (k < 0 || k >= on(level).size() || what < 0 || what > 7) {
            return -1;
        }
        SortedFile f = on(level).get(k);
        int[] all = {f.number(), f.entries().size(), f.first().space(), f.first().value(), f.first().key(),
            f.last().space(), f.last().value(), f.last().key()};
        return all[what];
    }

    @Override
    public String toString() {
        return "memory " + memory + " files " + files + " plan " + Arrays.toString(plan) + " result " + result;
    }
}
