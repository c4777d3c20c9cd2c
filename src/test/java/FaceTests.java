import java.lang.reflect.Constructor;
import java.lang.reflect.Field;
import java.lang.reflect.Method;
import java.lang.reflect.Modifier;
import java.util.Set;
import java.util.TreeSet;

/** The face stands as it does in the document, and nothing else can be seen. */
final class FaceTests {
    private static final String OUT = "IndexOutOfBoundsException";
    private static final String ARG = "IllegalArgumentException";
    private static final String STATE = "IllegalStateException";

    private static final String[] METHODS = {
        "int loss(int peril, int hour, int units) " + ARG + " " + STATE,
        "int creep(int loss, int units) " + OUT + " " + ARG,
        "int choose(int peril, int first, int last) " + ARG + " " + STATE,
        "int unchoose() " + STATE,
        "int quota(int percent) " + ARG,
        "int layer(int floor, int depth, int share, int reinstatements, int premium, int rate) " + ARG + " " + STATE,
        "int part(int layer, int reinsurer, int percent) " + OUT + " " + ARG + " " + STATE,
        "int retro(int reinsurer, int to, int floor, int depth) " + OUT + " " + ARG,
        "int station(int cell) " + ARG + " " + STATE,
        "int reading(int station, int hour, int peril, int strength) " + OUT + " " + ARG + " " + STATE,
        "int fails(int station, int hour) " + OUT + " " + ARG + " " + STATE,
        "int bond(int principal, int peril, int box, int first, int last, int trigger, int percent) "
            + ARG + " " + STATE,
        "int extend(int bond, int hours) " + OUT + " " + ARG + " " + STATE,
        "int pass(int hours) " + ARG + " " + STATE,
        "int scenario(int model, int weight, int units) " + OUT + " " + ARG + " " + STATE,
        "int occurrence(int occurrence, int what) " + OUT + " " + ARG,
        "int hit(int layer, int occurrence, int what) " + OUT + " " + ARG,
        "int sum(int what) " + ARG,
        "int reinsurer(int reinsurer, int what) " + OUT + " " + ARG,
        "int rounds()",
        "int best(int peril) " + ARG,
        "int bestAnew(int peril) " + ARG + " " + STATE,
        "int ofBond(int bond, int what) " + OUT + " " + ARG,
        "int basis()",
        "long price(int layer, int model) " + OUT + " " + STATE,
        "int tail(int layer, int model, int percent) " + OUT + " " + ARG + " " + STATE,
        "long dearest(int layer, boolean isBits) " + OUT,
        "int hour()",
    };

    private FaceTests() {
    }

    static void addTo(Suite s) {
        s.test("the face: every method as in the document", FaceTests::methods);
        s.test("the face: the constants", FaceTests::constants);
        s.test("the face: the class and its constructor", FaceTests::constructor);
    }

    private static String told(Method m) {
        StringBuilder b = new StringBuilder();
        b.append(m.getReturnType().getName()).append(' ').append(m.getName()).append('(');
        String gap = "";
        for (java.lang.reflect.Parameter p : m.getParameters()) {
            b.append(gap).append(p.getType().getName()).append(' ').append(p.getName());
            gap = ", ";
        }
        b.append(')');
        for (Class<?> e : m.getExceptionTypes()) {
            b.append(' ').append(e.getSimpleName());
        }
        return b.toString();
    }

    static void methods(Suite t) {
        Set<String> want = new TreeSet<>();
        Set<String> names = new TreeSet<>();
        for (String m : METHODS) {
            want.add(m);
        }
        Set<String> got = new TreeSet<>();
        for (Method m : Stormbond.class.getDeclaredMethods()) {
            if (Modifier.isPublic(m.getModifiers())) {
                got.add(told(m));
                names.add(m.getName());
                t.due(m.getName() + " is public alone", Modifier.PUBLIC, m.getModifiers());
            }
        }
        for (Method m : Stormbond.class.getDeclaredMethods()) {
            if (!Modifier.isPublic(m.getModifiers()) && !m.isSynthetic()) {
                t.due(m.getName() + " is private", 1, Modifier.isPrivate(m.getModifiers()) ? 1 : 0);
                t.due(m.getName() + " bears the name of a public one", 0, names.contains(m.getName()) ? 1 : 0);
            }
        }
        if (!want.equals(got)) {
            t.fault("due is " + want + ", there is " + got);
        }
    }

    static void constants(Suite t) throws Exception {
        String[] names = {"NONE", "WIND", "FLOOD", "QUAKE"};
        int[] values = {-1, 0, 1, 2};
        int open = 0;
        for (Field f : Stormbond.class.getDeclaredFields()) {
            if (!Modifier.isPrivate(f.getModifiers()) && !f.isSynthetic()) {
                open++;
            }
        }
        t.due("constants that can be seen", 4, open);
        for (int i = 0; i < 4; i++) {
            Field f = Stormbond.class.getDeclaredField(names[i]);
            t.due(names[i], values[i], f.getInt(null));
            t.due(names[i] + " is an int", 1, f.getType() == int.class ? 1 : 0);
            t.due(names[i], Modifier.PUBLIC | Modifier.STATIC | Modifier.FINAL, f.getModifiers());
        }
    }

    static void constructor(Suite t) {
        t.due("the class", Modifier.PUBLIC | Modifier.FINAL, Stormbond.class.getModifiers());
        t.due("has no package", 1, Stormbond.class.getPackageName().isEmpty() ? 1 : 0);
        Constructor<?>[] all = Stormbond.class.getDeclaredConstructors();
        t.due("constructors", 1, all.length);
        t.due("it is public", Modifier.PUBLIC, all[0].getModifiers());
        t.due("it takes nothing", 0, all[0].getParameterCount());
        t.due("it throws nothing", 0, all[0].getExceptionTypes().length);
        for (Class<?> c : Stormbond.class.getDeclaredClasses()) {
            boolean isOpen = Modifier.isPublic(c.getModifiers()) || Modifier.isProtected(c.getModifiers());
            t.due(c.getSimpleName() + " is private or package-visible", 0, isOpen ? 1 : 0);
        }
    }
}
