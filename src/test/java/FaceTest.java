import java.lang.reflect.Array;
import java.lang.reflect.Constructor;
import java.lang.reflect.Field;
import java.lang.reflect.Method;
import java.lang.reflect.Modifier;
import java.util.ArrayList;
import java.util.Arrays;
import java.util.IdentityHashMap;
import java.util.List;
import java.util.Map;
import java.util.Set;
import java.util.TreeSet;

/** The document's face, rules 1 and 5 of LANGUAGE.md, and that all memory is rows made once. */
public final class FaceTest {
    private static final String[] FACE = {
        "void risk(int, int, int) IAE ISE",
        "void premium(int, int) IAE ISE",
        "int treaty(int, int, int, int, int) IAE ISE",
        "void share(int, int, int) IAE ISE",
        "int claim(int, int, int) IAE ISE",
        "void estimate(int, int) IAE ISE",
        "void strike(int) IAE ISE",
        "int dissolve(int, int) IAE ISE",
        "int kept(int) IAE",
        "int ceded(int, int) IAE",
        "long left(int) IAE",
        "int window(int, int) IAE",
        "long total(int, int) IAE",
        "long due(int, int, int) IAE",
        "int whatIf(int, int, int) IAE ISE",
        "long bill(int) IAE",
        "void year(int, boolean) IAE ISE",
    };

    private FaceTest() {
    }

    public static void main(String[] args) throws ReflectiveOperationException {
        methods();
        members();
        insideClasses();
        rowsMadeOnce();
        Check.end();
    }

    private static void methods() {
        Set<String> due = new TreeSet<>(Arrays.asList(FACE));
        Set<String> got = new TreeSet<>();
        for (Method method : ReinsuranceDesk.class.getDeclaredMethods()) {
            if (Modifier.isPublic(method.getModifiers())) {
                got.add(signature(method));
            }
        }
        Check.same("the public methods", due.toString(), got.toString());
    }

    private static String signature(Method method) {
        List<String> parameters = new ArrayList<>();
        for (Class<?> parameter : method.getParameterTypes()) {
            parameters.add(parameter.getName());
        }
        Set<String> thrown = new TreeSet<>();
        for (Class<?> exception : method.getExceptionTypes()) {
            thrown.add(exception == IllegalArgumentException.class ? "IAE"
                : exception == IllegalStateException.class ? "ISE" : exception.getName());
        }
        return method.getReturnType().getName() + " " + method.getName() + "(" + String.join(", ", parameters) + ") "
            + String.join(" ", thrown);
    }

    private static void members() {
        int modifiers = ReinsuranceDesk.class.getModifiers();
        Check.holds("the class is public and final", Modifier.isPublic(modifiers) && Modifier.isFinal(modifiers));
        Constructor<?>[] constructors = ReinsuranceDesk.class.getDeclaredConstructors();
        Check.holds("one constructor, public, without parameters", constructors.length == 1
            && Modifier.isPublic(constructors[0].getModifiers()) && constructors[0].getParameterCount() == 0);
        Set<String> names = new TreeSet<>();
        for (Method method : ReinsuranceDesk.class.getDeclaredMethods()) {
            if (Modifier.isPublic(method.getModifiers())) {
                names.add(method.getName());
            }
        }
        for (Method method : ReinsuranceDesk.class.getDeclaredMethods()) {
            if (!Modifier.isPublic(method.getModifiers())) {
                Check.holds(method + " is private", Modifier.isPrivate(method.getModifiers()));
                Check.holds(method + " has a name of its own", !names.contains(method.getName()));
            }
        }
        fields(ReinsuranceDesk.class);
        for (Field field : ReinsuranceDesk.class.getDeclaredFields()) {
            Check.holds(field + " is private", Modifier.isPrivate(field.getModifiers()));
        }
        for (Class<?> inside : ReinsuranceDesk.class.getDeclaredClasses()) {
            for (Method method : inside.getDeclaredMethods()) {
                Check.holds(method + " has a name of its own", !names.contains(method.getName()));
            }
        }
    }

    private static void insideClasses() {
        for (Class<?> inside : ReinsuranceDesk.class.getDeclaredClasses()) {
            int modifiers = inside.getModifiers();
            Check.holds(inside + " is private and static", Modifier.isPrivate(modifiers) && Modifier.isStatic(modifiers));
            fields(inside);
        }
        Check.holds("at most twelve classes", ReinsuranceDesk.class.getDeclaredClasses().length < 12);
    }

    private static void fields(Class<?> type) {
        int own = 0;
        for (Field field : type.getDeclaredFields()) {
            if (Modifier.isStatic(field.getModifiers())) {
                Check.holds(field + " is final", Modifier.isFinal(field.getModifiers()));
            } else {
                own++;
            }
        }
        Check.holds(type + " has at most twenty fields", own <= 20);
    }

    private static void rowsMadeOnce() throws ReflectiveOperationException {
        ReinsuranceDesk x = new ReinsuranceDesk();
        Map<Object, Object> before = new IdentityHashMap<>();
        int elements = collect(x, before);
        use(x);
        Map<Object, Object> after = new IdentityHashMap<>();
        Check.same("fields and elements", Integer.toString(elements), Integer.toString(collect(x, after)));
        Check.holds("no other rows", before.size() == after.size() && before.keySet().containsAll(after.keySet()));
        Check.holds("small rows: " + elements, elements < 2000);
    }

    private static int collect(Object object, Map<Object, Object> seen) throws ReflectiveOperationException {
        if (object == null || seen.put(object, object) != null) {
            return 0;
        }
        if (object.getClass().isArray()) {
            Check.holds("an array of numbers", object.getClass().getComponentType().isPrimitive());
            return Array.getLength(object);
        }
        int elements = 0;
        for (Field field : object.getClass().getDeclaredFields()) {
            if (!Modifier.isStatic(field.getModifiers())) {
                elements++;
                field.setAccessible(true);
                if (!field.getType().isPrimitive()) {
                    elements += collect(field.get(object), seen);
                }
            }
        }
        return elements;
    }

    private static void use(ReinsuranceDesk x) {
        for (int risk = 0; risk < 12; risk++) {
            x.risk(risk, 100 + risk, risk % 4);
            x.premium(risk, 50);
        }
        for (int treaty = 0; treaty < 10; treaty++) {
            x.treaty(10 * (treaty / 2) + treaty % 2, 1, 1, 0, 0);
            x.share(treaty, treaty % 6, 1000);
        }
        for (int claim = 0; claim < 40; claim++) {
            x.estimate(x.claim(claim % 12, claim % 10, 10 * claim), 1000 * claim);
            x.kept(claim);
            x.whatIf(claim, 5, claim % 10);
            x.bill(claim % 6);
        }
    }
}
