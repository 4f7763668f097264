import java.io.IOException;
import java.lang.reflect.Constructor;
import java.lang.reflect.Field;
import java.lang.reflect.Method;
import java.lang.reflect.Modifier;
import java.nio.file.Files;
import java.nio.file.Path;
import java.util.ArrayList;
import java.util.Arrays;
import java.util.List;
import java.util.Set;
import java.util.TreeSet;
import java.util.regex.Matcher;
import java.util.regex.Pattern;

/** The class shows the document's face and nothing else, and its text keeps to the rules that can be read off it. */
public final class FaceTest {
    private static final String FACE = """
        public static final int TUITION
        public static final int FEES
        public static final int HOUSING
        public static final int GRANT
        public static final int WORK
        public static final int LOAN
        public TermBill()
        public int setRate(int,boolean,int) throws java.lang.IllegalArgumentException
        public void setBand(int,int) throws java.lang.IllegalArgumentException
        public int setShare(int,int) throws java.lang.IllegalArgumentException
        public void setFees(int,int) throws java.lang.IllegalArgumentException
        public void setStudent(int,int,boolean,int) throws java.lang.IndexOutOfBoundsException,java.lang.IllegalArgumentException
        public void setSponsor(int,int,int) throws java.lang.IndexOutOfBoundsException,java.lang.IllegalArgumentException
        public int take(int,int) throws java.lang.IndexOutOfBoundsException,java.lang.IllegalArgumentException,java.lang.IllegalStateException
        public int drop(int,int) throws java.lang.IndexOutOfBoundsException,java.lang.IllegalStateException
        public int charge(int,int,int) throws java.lang.IndexOutOfBoundsException,java.lang.IllegalArgumentException
        public int award(int,int,int) throws java.lang.IndexOutOfBoundsException,java.lang.IllegalArgumentException,java.lang.IllegalStateException
        public int pay(int,int) throws java.lang.IndexOutOfBoundsException,java.lang.IllegalArgumentException
        public int plan(int,int) throws java.lang.IndexOutOfBoundsException,java.lang.IllegalArgumentException,java.lang.IllegalStateException
        public int leave(int) throws java.lang.IndexOutOfBoundsException
        public int closeWeek() throws java.lang.IllegalStateException
        public int week()
        public int term()
        public int credits(int) throws java.lang.IndexOutOfBoundsException
        public int charged(int,int) throws java.lang.IndexOutOfBoundsException,java.lang.IllegalArgumentException
        public int sponsored(int) throws java.lang.IndexOutOfBoundsException
        public int used(int,int) throws java.lang.IndexOutOfBoundsException
        public int amountOf(int,int) throws java.lang.IndexOutOfBoundsException
        public int paid(int) throws java.lang.IndexOutOfBoundsException
        public int owed(int) throws java.lang.IndexOutOfBoundsException
        public boolean hasHold(int) throws java.lang.IndexOutOfBoundsException
        """;

    private static final String[] NOT_IN_THE_TEXT = {"->", "::", "Exact\\(", "\\bfinally\\b", "\\bsynchronized\\b",
        "\\bassert\\b", "\\bcatch\\b", "\\btry\\b", "\\bpackage\\b", "\\bhashCode\\b", "\\btoString\\b",
        "\\bstatic *\\{", "\\bwhile *\\(true\\)", "import (?!java\\.util\\.Arrays;)"};

    private static int wrong = 0;

    public static void main(String[] args) throws IOException {
        due("the face", shown(), new TreeSet<>(Arrays.asList(FACE.strip().split("\\s*\\n\\s*"))));
        due("final", Modifier.isFinal(TermBill.class.getModifiers()), true);
        privateNamesDifferFromPublicOnes();
        staticFieldsAreFinal();
        classesStaySmall();
        String text = withoutComments(Files.readString(Path.of(System.getProperty("project.root", "."),
            "src/main/java/TermBill.java")));
        for (String pattern : NOT_IN_THE_TEXT) {
            Matcher found = Pattern.compile(pattern).matcher(text);
            due("in the text: " + pattern, found.find(), false);
        }
        indicesAreLookedAt(text);
        methodsStayShort(text);
        System.out.println(wrong == 0 ? "FaceTest: all as due" : wrong + " findings");
        if (wrong != 0) {
            System.exit(1);
        }
    }

    /** Every member of the class that is not private, but for its inner classes. */
    private static Set<String> shown() {
        Set<String> all = new TreeSet<>();
        for (Field field : TermBill.class.getDeclaredFields()) {
            if (!Modifier.isPrivate(field.getModifiers())) {
                all.add(field.toString().replace("TermBill.", ""));
            }
        }
        for (Constructor<?> made : TermBill.class.getDeclaredConstructors()) {
            all.add(made.toString());
        }
        for (Method method : TermBill.class.getDeclaredMethods()) {
            if (!Modifier.isPrivate(method.getModifiers())) {
                all.add(method.toString().replace("TermBill.", ""));
            }
        }
        return all;
    }

    private static void privateNamesDifferFromPublicOnes() {
        List<String> names = new ArrayList<>();
        for (Method method : TermBill.class.getMethods()) {
            names.add(method.getName());
        }
        for (Class<?> each : classes()) {
            for (Method method : each.getDeclaredMethods()) {
                boolean isOwn = each != TermBill.class || Modifier.isPrivate(method.getModifiers());
                due(each.getName() + "." + method.getName(), isOwn && names.contains(method.getName()), false);
            }
        }
    }

    private static void staticFieldsAreFinal() {
        for (Class<?> each : classes()) {
            for (Field field : each.getDeclaredFields()) {
                int is = field.getModifiers();
                due(field + " is final", !Modifier.isStatic(is) || Modifier.isFinal(is), true);
            }
        }
    }

    private static void classesStaySmall() {
        due("at most twelve classes", classes().size() <= 12, true);
        for (Class<?> each : classes()) {
            int fields = 0;
            for (Field field : each.getDeclaredFields()) {
                fields += Modifier.isStatic(field.getModifiers()) ? 0 : 1;
            }
            due("at most twenty fields in " + each, fields <= 20, true);
            due("inner classes are static", each == TermBill.class || Modifier.isStatic(each.getModifiers()), true);
        }
    }

    private static List<Class<?>> classes() {
        List<Class<?>> all = new ArrayList<>(Arrays.asList(TermBill.class.getDeclaredClasses()));
        all.add(TermBill.class);
        return all;
    }

    /** "an index is looked at before it is used": in the same method, which no blank line divides. */
    private static void indicesAreLookedAt(String text) {
        int seen = 0;
        for (String method : text.split("\\n\\s*\\n")) {
            Matcher access = Pattern.compile("(?<!new )\\b\\w+\\[([^\\]]+)\\]").matcher(method);
            while (access.find()) {
                String index = access.group(1);
                Pattern look = Pattern.compile("\\b" + Pattern.quote(index) + " (<|>=) ");
                boolean isNumber = index.matches("\\d+");
                due(access.group() + " is looked at", isNumber || look.matcher(method.substring(0, access.start())).find(), true);
                seen++;
            }
        }
        due("arrays are used", seen > 0, true);
    }

    private static void methodsStayShort(String text) {
        for (String method : text.split("\\n\\s*\\n")) {
            due("some sixty lines in " + method.strip().lines().findFirst().orElse(""), method.lines().count() <= 60, true);
        }
        for (Class<?> each : classes()) {
            for (Method method : each.getDeclaredMethods()) {
                due("at most seven parameters of " + method, method.getParameterCount() <= 7, true);
            }
        }
    }

    private static String withoutComments(String text) {
        return text.replaceAll("(?s)/\\*.*?\\*/", "").replaceAll("//[^\\n]*", "");
    }

    private static void due(String what, Object got, Object want) {
        if (!got.equals(want)) {
            wrong++;
            System.out.println(what + " is " + got + ", due is " + want);
        }
    }
}
