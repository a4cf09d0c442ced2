import java.lang.reflect.InvocationTargetException;
import java.lang.reflect.Method;
import java.util.ArrayList;
import java.util.HashMap;
import java.util.List;
import java.util.Map;
import java.util.TreeMap;

/** Long runs of mixed calls: the program answers every one as the model does. */
public final class ModelTest {
    private static final int RUNS = 3000;
    private static final int CALLS = 512;
    /** What the runs must have reached, or they would not be worth much. */
    private static final List<String> MUST_HAPPEN = List.of(
            "5 open", "60 transactions", "all files met", "files not met", "beaten", "dead one dropped",
            "empty range", "file above 12", "file up to 12", "full", "left out to level 1", "left out to level 2",
            "level 0 overfull", "level 1 overfull", "nothing left", "nothing left out", "plan with index 0",
            "plan with index 1", "plan with index 2", "plan without index", "result beyond the candidates",
            "tear in pieces", "tear whole", "too many nodes", "too many on the pile");

    private static final Map<String, Method> OF_PROGRAM = methodsOf(VersionedRows.class);
    private static final Map<String, Method> OF_MODEL = methodsOf(Model.class);

    public static void main(String[] args) throws Exception {
        Due due = new Due();
        Map<String, Integer> happened = new TreeMap<>();
        for (int run = 0; run < RUNS && !due.isWrong(); run++) {
            Model model = new Model();
            walk(due, run, model);
            model.happened.forEach((what, often) -> happened.merge(what, often, Integer::sum));
        }
        if (!due.isWrong()) {
            for (String what : MUST_HAPPEN) {
                due.is("reached: " + what, true, happened.containsKey(what));
            }
        }
        System.out.println(happened);
        due.end("ModelTest");
    }

    private static void walk(Due due, int run, Model model) throws Exception {
        VersionedRows program = new VersionedRows();
        Walk walk = new Walk(run, model);
        List<String> told = new ArrayList<>();
        for (int i = 0; i < CALLS; i++) {
            Walk.Call call = walk.next();
            long want = ask(OF_MODEL.get(call.name()), model, call.args());
            long got = ask(OF_PROGRAM.get(call.name()), program, call.args());
            told.add(call + " = " + got);
            due.is("run " + run + ", call " + i + ", " + call, want, got);
            if (got != want) {
                told.forEach(System.out::println);
                System.out.println(model);
                return;
            }
        }
    }

    private static long ask(Method method, Object on, int[] args) throws Exception {
        Object[] boxed = new Object[args.length];
        for (int i = 0; i < args.length; i++) {
            boxed[i] = args[i];
        }
        try {
            Object answer = method.invoke(on, boxed);
            return answer instanceof Boolean b ? (b ? 1 : 0) : ((Number) answer).longValue();
        } catch (InvocationTargetException thrown) {
            thrown.getCause().printStackTrace(System.out);
            return Long.MIN_VALUE;
        }
    }

    private static Map<String, Method> methodsOf(Class<?> of) {
        Map<String, Method> found = new HashMap<>();
        for (Method m : of.getDeclaredMethods()) {
            if (java.lang.reflect.Modifier.isPublic(m.getModifiers())) {
                m.setAccessible(true);
                found.put(m.getName(), m);
            }
        }
        return found;
    }
}
