import java.util.List;
import java.util.Objects;
import java.util.function.Consumer;

/** What tests begin with: compares answers with those that are due, and counts the wrong ones. */
abstract class Check {
    static final Class<?> INDEX = IndexOutOfBoundsException.class;
    static final Class<?> ARGUMENT = IllegalArgumentException.class;
    static final Class<?> STATE = IllegalStateException.class;
    static final int[] WRONG_STUDENTS = {-1, 4, Integer.MIN_VALUE, Integer.MAX_VALUE};

    private static int wrong = 0;
    private static String about = "";

    /** Names what the answers that follow are about. */
    static void about(String text) {
        about = text;
    }

    static void due(String what, Object got, Object want) {
        if (!Objects.equals(got, want)) {
            wrong++;
            System.out.println(about + ": " + what + " is " + got + ", due is " + want);
        }
    }

    /** A call that throws must throw just this, and change nothing that any probe finds. */
    static void fails(String what, Class<?> want, Bill bill, Consumer<Bill> call) {
        due(what + " throws", thrown(bill, call), want);
        List<String> seen = Probe.all(() -> bill.twin());
        List<String> before = Probe.all(() -> bill.twinWithoutRefusedCalls());
        for (int i = 0; i < before.size(); i++) {
            due(what + " leaves", seen.get(i), before.get(i));
        }
    }

    private static Class<?> thrown(Bill bill, Consumer<Bill> call) {
        try {
            call.accept(bill);
        } catch (RuntimeException e) {
            return e.getClass();
        }
        return null;
    }

    static void end(String name) {
        System.out.println(name + ": " + (wrong == 0 ? "all as due" : wrong + " answers are not as due"));
        if (wrong != 0) {
            System.exit(1);
        }
    }
}
