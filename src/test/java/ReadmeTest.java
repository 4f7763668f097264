import java.io.IOException;
import java.lang.reflect.InvocationTargetException;
import java.lang.reflect.Method;
import java.lang.reflect.Modifier;
import java.nio.file.Files;
import java.nio.file.Path;
import java.util.ArrayList;
import java.util.Arrays;
import java.util.List;
import java.util.Set;
import java.util.TreeSet;
import java.util.regex.Matcher;
import java.util.regex.Pattern;

/** README.md tells the truth: the answers of its example, and the calls, parameters and exceptions of its tables. */
public final class ReadmeTest extends Check {
    private static final String CALL = "bill\\.(\\w+)\\((.*?)\\);";
    private static final Pattern LINE = Pattern.compile(
        "(?:for \\(int i = 0; i < (\\d+); i\\+\\+\\) )?" + CALL + " +// (throws \\w+|-?\\w+)(?:: .*)?");
    private static final Pattern ROW = Pattern.compile("\\| `(\\w+)\\((.*?)\\)` \\|.*");
    private static final Pattern THROWN = Pattern.compile("\\| `(\\w+Exception)` \\| .* \\| (.*) \\|");

    public static void main(String[] args) throws IOException, ReflectiveOperationException {
        Path root = Path.of(System.getProperty("project.root", "."));
        List<String> readme = Files.readAllLines(root.resolve("README.md"));
        String source = Files.readString(root.resolve("src/main/java/TermBill.java"));
        example(readme);
        calls(readme, source);
        exceptions(readme, source);
        end("ReadmeTest");
    }

    // ---- the example

    private static void example(List<String> readme) throws ReflectiveOperationException {
        about("the example");
        List<String> lines = readme.subList(readme.indexOf("```java") + 1, readme.lastIndexOf("```"));
        due("it begins", lines.get(0), "TermBill bill = new TermBill();");
        TermBill bill = new TermBill();
        for (String line : lines.subList(1, lines.size())) {
            Matcher told = LINE.matcher(line);
            if (!told.matches()) {
                due(line, "no call with its answer", "one");
                continue;
            }
            int times = told.group(1) == null ? 1 : Integer.parseInt(told.group(1));
            String answer = "no answer";
            for (int i = 0; i < times; i++) {
                answer = answerOf(bill, told.group(2), told.group(3));
            }
            due(line, answer, told.group(4));
        }
    }

    private static String answerOf(TermBill bill, String name, String arguments) throws ReflectiveOperationException {
        Method method = named(name);
        try {
            Object answer = method.invoke(bill, values(arguments));
            return method.getReturnType() == void.class ? "nothing" : String.valueOf(answer);
        } catch (InvocationTargetException e) {
            return "throws " + e.getCause().getClass().getSimpleName();
        }
    }

    private static Object[] values(String arguments) throws ReflectiveOperationException {
        List<Object> values = new ArrayList<>();
        for (String each : parted(arguments)) {
            if (each.startsWith("TermBill.")) {
                values.add(TermBill.class.getField(each.substring("TermBill.".length())).getInt(null));
            } else if (each.equals("true") || each.equals("false")) {
                values.add(Boolean.valueOf(each));
            } else {
                values.add(Integer.valueOf(each));
            }
        }
        return values.toArray();
    }

    // ---- the tables

    private static void calls(List<String> readme, String source) {
        about("the table of calls");
        List<String> told = new ArrayList<>();
        for (String line : readme) {
            Matcher row = ROW.matcher(line);
            if (row.matches()) {
                told.add(row.group(1) + "(" + row.group(2) + ")");
            }
        }
        List<String> want = new ArrayList<>();
        for (Method method : publicMethods()) {
            want.add(method.getName() + "(" + String.join(", ", parameters(method, source)) + ")");
        }
        due("calls with their parameters", new TreeSet<>(told), new TreeSet<>(want));
        due("each one once", told.size(), want.size());
    }

    private static void exceptions(List<String> readme, String source) {
        about("the table of exceptions");
        for (Method method : publicMethods()) {
            Set<String> want = new TreeSet<>();
            for (Class<?> each : method.getExceptionTypes()) {
                want.add(each.getSimpleName());
            }
            boolean hasStudent = parameters(method, source).contains("student");
            due("exceptions of " + method.getName(), told(readme, method.getName(), hasStudent), want);
        }
    }

    private static Set<String> told(List<String> readme, String name, boolean hasStudent) {
        Set<String> all = new TreeSet<>();
        for (String line : readme) {
            Matcher row = THROWN.matcher(line);
            if (row.matches()) {
                boolean isAllWithStudent = row.group(2).equals("all with a `student`");
                if (isAllWithStudent ? hasStudent : parted(row.group(2)).contains("`" + name + "`")) {
                    all.add(row.group(1));
                }
            }
        }
        return all;
    }

    // ---- the class

    private static List<Method> publicMethods() {
        List<Method> all = new ArrayList<>();
        for (Method method : TermBill.class.getDeclaredMethods()) {
            if (Modifier.isPublic(method.getModifiers())) {
                all.add(method);
            }
        }
        return all;
    }

    private static Method named(String name) throws NoSuchMethodException {
        for (Method method : publicMethods()) {
            if (method.getName().equals(name)) {
                return method;
            }
        }
        throw new NoSuchMethodException(name);
    }

    /** Names of parameters are read off the text, as they are not kept in the compiled class. */
    private static List<String> parameters(Method method, String source) {
        Matcher found = Pattern.compile("public \\w+ " + method.getName() + "\\((.*?)\\)").matcher(source);
        due(method.getName() + " stands in the text", found.find(), true);
        List<String> names = new ArrayList<>();
        for (String each : parted(found.group(1))) {
            names.add(each.substring(each.indexOf(' ') + 1));
        }
        return names;
    }

    private static List<String> parted(String list) {
        return list.isEmpty() ? List.of() : Arrays.asList(list.split(", "));
    }
}
