import java.io.IOException;
import java.lang.reflect.Method;
import java.nio.file.Files;
import java.nio.file.Path;
import java.util.Set;
import java.util.TreeSet;
import java.util.regex.Matcher;
import java.util.regex.Pattern;

/** The example of README.md: each call answers what stands behind it, and each call of the face is in it. */
public final class PointTreesReadme {
    private static final Path README = Path.of("README.md");
    private static final Pattern CALL = Pattern.compile("^p\\.(\\w+)\\((.*)\\); +// (-?\\d+)\\b.*$");
    private static int wrong = 0;

    private static void complain(String text) {
        wrong++;
        System.out.println(text);
    }

    private static Method named(String name) {
        for (Method m : PointTrees.class.getMethods()) {
            if (m.getDeclaringClass() == PointTrees.class && m.getName().equals(name)) {
                return m;
            }
        }
        throw new IllegalArgumentException("no call " + name);
    }

    private static long answer(PointTrees p, Method call, String numbers) throws ReflectiveOperationException {
        String[] texts = numbers.isEmpty() ? new String[0] : numbers.split(", ");
        Object[] arguments = new Object[texts.length];
        for (int i = 0; i < texts.length; i++) {
            boolean isInt = call.getParameterTypes()[i] == int.class;
            arguments[i] = isInt ? (Object) Integer.valueOf(texts[i]) : (Object) Long.valueOf(texts[i]);
        }
        return ((Number) call.invoke(p, arguments)).longValue();
    }

    private static Set<String> face() {
        Set<String> names = new TreeSet<>();
        for (Method m : PointTrees.class.getMethods()) {
            if (m.getDeclaringClass() == PointTrees.class) {
                names.add(m.getName());
            }
        }
        return names;
    }

    public static void main(String[] args) throws IOException, ReflectiveOperationException {
        PointTrees p = new PointTrees();
        Set<String> called = new TreeSet<>();
        for (String line : Files.readAllLines(README)) {
            Matcher m = CALL.matcher(line);
            if (m.matches()) {
                long got = answer(p, named(m.group(1)), m.group(2));
                called.add(m.group(1));
                if (got != Long.parseLong(m.group(3))) {
                    complain(line + " answered " + got);
                }
            } else if (line.startsWith("p.")) {
                complain(line + " says no answer");
            }
        }
        if (!called.equals(face())) {
            complain("README.md calls " + called + ", due is " + face());
        }
        System.out.println(wrong == 0 ? "README.md says what is so" : wrong + " lines of README.md are not so");
        if (wrong != 0) {
            System.exit(1);
        }
    }
}
