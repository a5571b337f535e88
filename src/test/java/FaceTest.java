import java.lang.reflect.Constructor;
import java.lang.reflect.Field;
import java.lang.reflect.Method;
import java.lang.reflect.Modifier;
import java.util.Arrays;
import java.util.Set;
import java.util.TreeSet;

/** The class has the document's face and nothing beside it, and no state outside of its objects. */
public final class FaceTest {
    private static final Class<BranchingKernel> FACE = BranchingKernel.class;
    private static final String[] METHODS = {
        "boolean kill(int)", "boolean stage(int, int)", "int code(int)", "int frames()", "int load(int)", "int parent(int)",
        "int peek(int, int)", "int print(int)", "int printed()", "int reap(int)", "int register(int, int)", "int running()",
        "int sharing(int, int)", "int state(int)", "int step()", "int steps(int)"};
    private static final String[] CONSTANTS = {
        "NONE = -1", "FREE = 0", "READY = 1", "WAITING = 2", "ZOMBIE = 3", "OUTSIDE = -11", "ILLEGAL = -12", "NO_MEMORY = -13",
        "KILLED = -14", "NO_PROCESS = -15", "BAD_LENGTH = -16", "IDLE = 0", "RAN = 1", "PRINTED = 2", "FORKED = 3", "SLEPT = 4",
        "ENDED = 5"};
    private static final Check check = new Check();

    public static void main(String[] args) throws IllegalAccessException {
        check.section("the face");
        theClass();
        constructors();
        methods();
        fields();
        classesInside();
        check.finish();
    }

    private static void theClass() {
        check.same("public", Modifier.isPublic(FACE.getModifiers()), true);
        check.same("final", Modifier.isFinal(FACE.getModifiers()), true);
        check.same("no package", FACE.getPackageName().isEmpty(), true);
    }

    private static void constructors() {
        Constructor<?>[] all = FACE.getDeclaredConstructors();
        check.same("constructors", all.length, 1);
        check.same("public constructor", Modifier.isPublic(all[0].getModifiers()), true);
        check.same("parameters", Arrays.equals(all[0].getParameterTypes(), new Class<?>[] {int.class, int.class}), true);
    }

    private static void methods() {
        Set<String> found = new TreeSet<>();
        Set<String> publicNames = new TreeSet<>();
        for (Method m : FACE.getDeclaredMethods()) {
            if (!Modifier.isPrivate(m.getModifiers())) {
                found.add(text(m) + (Modifier.isPublic(m.getModifiers()) ? "" : " not public"));
                publicNames.add(m.getName());
            }
        }
        same("methods", found, METHODS);
        for (Method m : FACE.getDeclaredMethods()) {
            if (Modifier.isPrivate(m.getModifiers())) {
                check.same("private " + m.getName() + " bears a public name", publicNames.contains(m.getName()), false);
            }
        }
    }

    private static String text(Method m) {
        StringBuilder out = new StringBuilder(m.getReturnType().getName()).append(' ').append(m.getName()).append('(');
        for (Class<?> type : m.getParameterTypes()) {
            out.append(out.charAt(out.length() - 1) == '(' ? "" : ", ").append(type.getName());
        }
        return out.append(')').toString();
    }

    private static void fields() throws IllegalAccessException {
        Set<String> found = new TreeSet<>();
        for (Field f : FACE.getDeclaredFields()) {
            int how = f.getModifiers();
            if (Modifier.isStatic(how)) {
                check.same("final " + f.getName(), Modifier.isFinal(how), true);
            }
            if (!Modifier.isPrivate(how)) {
                check.same("public static " + f.getName(), Modifier.isPublic(how) && Modifier.isStatic(how), true);
                found.add(f.getName() + " = " + f.getInt(null));
            }
        }
        same("constants", found, CONSTANTS);
    }

    private static void classesInside() {
        for (Class<?> inside : FACE.getDeclaredClasses()) {
            int how = inside.getModifiers();
            check.same("static " + inside.getName(), Modifier.isStatic(how), true);
            check.same("hidden " + inside.getName(), Modifier.isPublic(how) || Modifier.isProtected(how), false);
        }
    }

    private static void same(String what, Set<String> found, String[] due) {
        Set<String> wanted = new TreeSet<>(Arrays.asList(due));
        if (!found.equals(wanted)) {
            System.out.println(what + ": " + found);
        }
        check.same(what + " are those of the document", found.equals(wanted), true);
    }
}
