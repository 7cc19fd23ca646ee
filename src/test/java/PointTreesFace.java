import java.lang.reflect.Constructor;
import java.lang.reflect.Field;
import java.lang.reflect.Method;
import java.lang.reflect.Modifier;
import java.util.Set;
import java.util.TreeSet;

/** The class shows the document's face and nothing else. */
public final class PointTreesFace {
    private static int wrong = 0;

    private static void due(String what, Object got, Object want) {
        if (!got.equals(want)) {
            wrong++;
            System.out.println(what + " is\n  " + got + ", due is\n  " + want);
        }
    }

    private static String face(Method m) {
        StringBuilder s = new StringBuilder(m.getReturnType().getName());
        s.append(' ').append(m.getName()).append('(');
        for (Class<?> type : m.getParameterTypes()) {
            s.append(type.getName().charAt(0));
        }
        s.append(')');
        for (Class<?> type : m.getExceptionTypes()) {
            s.append(' ').append(type.getSimpleName());
        }
        return s.append(Modifier.isStatic(m.getModifiers()) ? " static" : "").toString();
    }

    private static void dueMethods() {
        Set<String> seen = new TreeSet<>();
        Set<String> names = new TreeSet<>();
        for (Method m : PointTrees.class.getDeclaredMethods()) {
            if (!Modifier.isPrivate(m.getModifiers())) {
                due("visibility of " + m.getName(), Modifier.isPublic(m.getModifiers()), true);
                seen.add(face(m));
                names.add(m.getName());
            }
        }
        due("the methods", seen, new TreeSet<>(Set.of("int dimensions(i)", "int thing(iiiiii)", "int drop(i)",
                "int count()", "long end(iii)", "int build()", "int block(ii)", "long bound(iii)",
                "int range(iiiiiii)", "int found(i)", "int told(i)", "int nearest(iiii)", "long distance(iiii)",
                "int pairs()", "long day(ll) ArithmeticException")));
        for (Method m : PointTrees.class.getDeclaredMethods()) {
            if (Modifier.isPrivate(m.getModifiers())) {
                due("a private namesake " + m.getName(), names.contains(m.getName()), false);
            }
        }
    }

    private static void dueFields() {
        Set<String> seen = new TreeSet<>();
        for (Field f : PointTrees.class.getDeclaredFields()) {
            if (!Modifier.isPrivate(f.getModifiers())) {
                seen.add(Modifier.toString(f.getModifiers()) + " " + f.getType() + " " + f.getName());
            }
            if (Modifier.isStatic(f.getModifiers())) {
                due("final " + f.getName(), Modifier.isFinal(f.getModifiers()), true);
            }
        }
        due("the fields", seen, Set.of("public static final long NOTHING"));
    }

    private static void dueConstructors() {
        Constructor<?>[] all = PointTrees.class.getDeclaredConstructors();
        due("how many constructors", all.length, 1);
        due("the constructor", all[0].toString(), "public PointTrees()");
    }

    private static void dueClasses() {
        due("the class", Modifier.toString(PointTrees.class.getModifiers()), "public final");
        for (Class<?> c : PointTrees.class.getDeclaredClasses()) {
            int m = c.getModifiers();
            due("seen class " + c, Modifier.isPublic(m) || Modifier.isProtected(m), false);
            due("static class " + c, Modifier.isStatic(c.getModifiers()), true);
        }
    }

    public static void main(String[] args) {
        dueClasses();
        dueConstructors();
        dueFields();
        dueMethods();
        System.out.println(wrong == 0 ? "the face is as due" : wrong + " parts of the face are not as due");
        if (wrong != 0) {
            System.exit(1);
        }
    }
}
