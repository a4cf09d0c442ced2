import java.lang.reflect.Constructor;
import java.lang.reflect.Field;
import java.lang.reflect.Method;
import java.lang.reflect.Modifier;
import java.util.Arrays;
import java.util.List;
import java.util.Set;
import java.util.TreeSet;

/** The class has the document's face and no other member that can be seen from outside. */
public final class FaceTest {
    private static final List<String> METHODS = List.of(
            "boolean say(int, int)", "int index()", "int begin()", "int read(int, int, int)",
            "boolean write(int, int, int, int, int)", "boolean remove(int, int)", "int query(int)",
            "int commit(int)", "int tear(int, int)", "boolean abort(int)", "int flush()", "int compact()",
            "int crash()", "int result(int)", "long plan(int)", "int state(int)", "int about(int)",
            "int files(int)", "int file(int, int, int)");

    public static void main(String[] args) {
        Due due = new Due();
        Class<?> face = VersionedRows.class;
        due.is("public final", true, face.getModifiers() == (Modifier.PUBLIC | Modifier.FINAL));
        checkMethods(due, face);
        checkFields(due, face);
        Constructor<?>[] constructors = face.getDeclaredConstructors();
        due.is("one constructor", 1, constructors.length);
        due.is("a public one", true, Modifier.isPublic(constructors[0].getModifiers()));
        due.is("without parameters", 0, constructors[0].getParameterCount());
        for (Class<?> inside : face.getDeclaredClasses()) {
            due.is(inside + " is static", true, Modifier.isStatic(inside.getModifiers()));
            due.is(inside + " is public", false, Modifier.isPublic(inside.getModifiers()));
        }
        due.end("FaceTest");
    }

    private static void checkMethods(Due due, Class<?> face) {
        Set<String> visible = new TreeSet<>();
        Set<String> visibleNames = new TreeSet<>();
        Set<String> privateNames = new TreeSet<>();
        for (Method m : face.getDeclaredMethods()) {
            if (Modifier.isPrivate(m.getModifiers())) {
                privateNames.add(m.getName());
                continue;
            }
            due.is(m + " is public and no static one", true, m.getModifiers() == Modifier.PUBLIC);
            String parameters = Arrays.toString(m.getParameterTypes());
            visible.add(m.getReturnType() + " " + m.getName()
                    + "(" + parameters.substring(1, parameters.length() - 1) + ")");
            visibleNames.add(m.getName());
        }
        due.is("the methods " + visible, true, visible.equals(new TreeSet<>(METHODS)));
        privateNames.retainAll(visibleNames);
        due.is("private ones with a public name " + privateNames, 0, privateNames.size());
    }

    private static void checkFields(Due due, Class<?> face) {
        Set<String> visible = new TreeSet<>();
        for (Field f : face.getDeclaredFields()) {
            if (!Modifier.isPrivate(f.getModifiers())) {
                visible.add(Modifier.toString(f.getModifiers()) + " " + f.getType() + " " + f.getName());
            }
        }
        due.is("the constants " + visible, true, visible.equals(Set.of(
                "public static final int NONE", "public static final int BEATEN", "public static final int FULL")));
        due.is("NONE", -1, VersionedRows.NONE);
        due.is("BEATEN", -2, VersionedRows.BEATEN);
        due.is("FULL", -3, VersionedRows.FULL);
    }
}
