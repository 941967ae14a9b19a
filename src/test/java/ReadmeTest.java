import java.io.IOException;
import java.lang.reflect.InvocationTargetException;
import java.lang.reflect.Method;
import java.nio.file.Files;
import java.nio.file.Path;
import java.util.ArrayList;
import java.util.Arrays;
import java.util.List;
import java.util.TreeSet;
import java.util.regex.Matcher;
import java.util.regex.Pattern;

/** README.md tells how the class is used: its example answers what it says, and no method is left out. */
public final class ReadmeTest {
    private static final Due due = new Due();
    private static final Pattern MADE = Pattern.compile("GridRouter router = new GridRouter\\((.*)\\);.*");
    private static final Pattern CALL = Pattern.compile("router\\.(\\w+)\\((.*)\\); *// ([^: ]+).*");
    private static final Pattern THROWN = Pattern.compile("\\w+Exception");

    public static void main(String[] args) throws IOException {
        List<String> lines = Files.readAllLines(Path.of("README.md"));
        example(lines);
        for (Method method : GridRouter.class.getDeclaredMethods()) {
            if (!method.isSynthetic()) {
                tellsOf(method, lines);
            }
        }
        due.end();
    }

    private static void example(List<String> lines) {
        GridRouter router = null;
        TreeSet<String> used = new TreeSet<>();
        for (String line : block(lines)) {
            Matcher made = MADE.matcher(line);
            Matcher call = CALL.matcher(line);
            if (made.matches()) {
                int[] args = Arrays.stream(made.group(1).split(", ")).mapToInt(Integer::parseInt).toArray();
                router = new GridRouter(args[0], args[1], args[2], args[3]);
            } else if (call.matches() && router != null) {
                used.add(call.group(1));
                holds(router, line, call);
            } else {
                due.report("README.md has a line that is no call with its answer: " + line);
            }
        }
        due.is("methods in the example", used.toString(),
                "[all, block, cell, faults, net, paint, push, rip, route, shape, shapes, stitch, via]");
    }

    /** The lines of the first block of Java. */
    private static List<String> block(List<String> lines) {
        int from = lines.indexOf("```java") + 1;
        return lines.subList(from, from + lines.subList(from, lines.size()).indexOf("```"));
    }

    private static void holds(GridRouter router, String line, Matcher call) {
        List<Object> args = new ArrayList<>();
        for (String arg : call.group(2).split(", ")) {
            if (!arg.isEmpty()) {
                args.add(value(arg));
            }
        }
        Object answer = answer(router, call.group(1), args);
        if (answer != null) {
            due.is("README.md: " + line, answer.toString(), call.group(3));
        }
    }

    private static Object value(String text) {
        if (text.equals("true") || text.equals("false")) {
            return Boolean.valueOf(text);
        }
        return Integer.valueOf(text);
    }

    private static Object answer(GridRouter router, String name, List<Object> args) {
        for (Method method : GridRouter.class.getDeclaredMethods()) {
            if (method.getName().equals(name)) {
                try {
                    return method.invoke(router, args.toArray());
                } catch (IllegalAccessException | InvocationTargetException e) {
                    return "throws " + e.getCause();
                }
            }
        }
        return "there is no " + name;
    }

    private static void tellsOf(Method method, List<String> lines) {
        List<String> thrown = new ArrayList<>();
        for (Class<?> one : method.getExceptionTypes()) {
            thrown.add(one.getSimpleName());
        }
        List<String> told = new ArrayList<>();
        Matcher names = THROWN.matcher(itemOf(method, lines));
        while (names.find()) {
            told.add(names.group());
        }
        due.is("what README.md tells that " + method.getName() + " throws", told.toString(), thrown.toString());
    }

    /** The list's item that begins with the method's head, from its first line to its last. */
    private static String itemOf(Method method, List<String> lines) {
        Pattern head = Pattern.compile("- `" + method.getReturnType() + " " + method.getName() + "\\((\\w+ \\w+"
                + "(, )?){" + method.getParameterCount() + "}\\)`: .*");
        StringBuilder item = new StringBuilder();
        for (String line : lines) {
            if (item.length() == 0 ? head.matcher(line).matches() : line.startsWith("  ")) {
                item.append(line).append('\n');
            } else if (item.length() != 0) {
                return item.toString();
            }
        }
        due.report("README.md does not tell of " + method.getName());
        return "";
    }
}
