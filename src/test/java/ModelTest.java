import java.util.ArrayList;
import java.util.List;
import java.util.Objects;
import java.util.Random;

/**
 * Runs of up to 512 calls, drawn with a fixed seed, on the class and on a second, slower reading of the
 * document that keeps lists of what happened; each answer must be the same, and all that is seen at the end.
 */
public final class ModelTest {
    private static final int RUNS = 6000;
    private static final int MOST_CALLS = 512;
    /** As many calls as a look at everything makes at most. */
    private static final int CALLS_OF_A_LOOK = 2 + 4 * (8 + 2 * 7);

    private static final String[] NAMES = {"setRate", "setBand", "setShare", "setFees", "setStudent", "setSponsor",
        "take", "drop", "charge", "award", "pay", "plan", "leave", "closeWeek",
        "week", "term", "credits", "charged", "sponsored", "used", "amountOf", "paid", "owed", "hasHold"};

    public static void main(String[] args) {
        int wrong = 0;
        for (int run = 0; run < RUNS && wrong < 5; run++) {
            if (!isRunAsDue(run)) {
                wrong++;
            }
        }
        System.out.println(wrong == 0 ? "ModelTest: " + RUNS + " runs as due" : wrong + " runs went wrong");
        if (wrong != 0) {
            System.exit(1);
        }
    }

    private static boolean isRunAsDue(int run) {
        TermBill real = new TermBill();
        Model model = new Model();
        Draw draw = new Draw(new Random(7919L * run + 1), run, model);
        int length = draw.length();
        List<int[]> calls = new ArrayList<>();
        for (int i = 0; i < length; i++) {
            int[] call = draw.next();
            calls.add(call);
            String got = answerOf(() -> callReal(real, call));
            String want = answerOf(() -> callModel(model, call));
            if (!got.equals(want)) {
                return isReported(run, calls, got, want);
            }
        }
        for (int[] call : look(model, MOST_CALLS - length)) {
            calls.add(call);
            String got = answerOf(() -> callReal(real, call));
            String want = answerOf(() -> callModel(model, call));
            if (!got.equals(want)) {
                return isReported(run, calls, got, want);
            }
        }
        return true;
    }

    /** A look at everything, if as many calls are left. */
    private static List<int[]> look(Model model, int calls) {
        List<int[]> all = new ArrayList<>();
        if (calls < CALLS_OF_A_LOOK) {
            return all;
        }
        all.add(new int[] {14, 0, 0, 0, 0});
        all.add(new int[] {15, 0, 0, 0, 0});
        for (int student = 0; student < 4; student++) {
            for (int call : new int[] {16, 18, 21, 22, 23}) {
                all.add(new int[] {call, student, 0, 0, 0});
            }
            for (int kind = 0; kind < 3; kind++) {
                all.add(new int[] {17, student, kind, 0, 0});
            }
            for (int award = 0; award <= model.people.get(student).awards.size(); award++) {
                all.add(new int[] {19, student, award, 0, 0});
                all.add(new int[] {20, student, award, 0, 0});
            }
        }
        return all;
    }

    private static boolean isReported(int run, List<int[]> calls, String got, String want) {
        int last = calls.size() - 1;
        System.out.println("run " + run + ", call " + last + ": " + told(calls.get(last)));
        System.out.println("  got " + got);
        System.out.println("  due " + want);
        for (int i = Math.max(0, last - 12); i < last; i++) {
            System.out.println("  behind " + told(calls.get(i)));
        }
        return false;
    }

    private static String told(int[] call) {
        return NAMES[call[0]] + "(" + call[1] + ", " + call[2] + ", " + call[3] + ", " + call[4] + ")";
    }

    private interface Call {
        Object run();
    }

    private static String answerOf(Call call) {
        try {
            return Objects.toString(call.run());
        } catch (RuntimeException e) {
            return "throws." + e.getClass().getSimpleName();
        }
    }

    private static Object callReal(TermBill x, int[] c) {
        switch (c[0]) {
            case 0: return x.setRate(c[1], c[2] == 1, c[3]);
            case 1: x.setBand(c[1], c[2]); return "void";
            case 2: return x.setShare(c[1], c[2]);
            case 3: x.setFees(c[1], c[2]); return "void";
            case 4: x.setStudent(c[1], c[2], c[3] == 1, c[4]); return "void";
            case 5: x.setSponsor(c[1], c[2], c[3]); return "void";
            case 6: return x.take(c[1], c[2]);
            case 7: return x.drop(c[1], c[2]);
            case 8: return x.charge(c[1], c[2], c[3]);
            case 9: return x.award(c[1], c[2], c[3]);
            case 10: return x.pay(c[1], c[2]);
            case 11: return x.plan(c[1], c[2]);
            case 12: return x.leave(c[1]);
            case 13: return x.closeWeek();
            case 14: return x.week();
            case 15: return x.term();
            case 16: return x.credits(c[1]);
            case 17: return x.charged(c[1], c[2]);
            case 18: return x.sponsored(c[1]);
            case 19: return x.used(c[1], c[2]);
            case 20: return x.amountOf(c[1], c[2]);
            case 21: return x.paid(c[1]);
            case 22: return x.owed(c[1]);
            default: return x.hasHold(c[1]);
        }
    }

    private static Object callModel(Model x, int[] c) {
        switch (c[0]) {
            case 0: return x.setRate(c[1], c[2] == 1, c[3]);
            case 1: x.setBand(c[1], c[2]); return "void";
            case 2: return x.setShare(c[1], c[2]);
            case 3: x.setFees(c[1], c[2]); return "void";
            case 4: x.setStudent(c[1], c[2], c[3] == 1, c[4]); return "void";
            case 5: x.setSponsor(c[1], c[2], c[3]); return "void";
            case 6: return x.take(c[1], c[2]);
            case 7: return x.drop(c[1], c[2]);
            case 8: return x.charge(c[1], c[2], c[3]);
            case 9: return x.award(c[1], c[2], c[3]);
            case 10: return x.pay(c[1], c[2]);
            case 11: return x.plan(c[1], c[2]);
            case 12: return x.leave(c[1]);
            case 13: return x.closeWeek();
            case 14: return x.week();
            case 15: return x.term();
            case 16: return x.credits(c[1]);
            case 17: return x.charged(c[1], c[2]);
            case 18: return x.sponsored(c[1]);
            case 19: return x.used(c[1], c[2]);
            case 20: return x.amountOf(c[1], c[2]);
            case 21: return x.paid(c[1]);
            case 22: return x.owed(c[1]);
            default: return x.hasHold(c[1]);
        }
    }

    /** Draws calls: most of them good, some at the edges or at sums where an answer turns, some wrong. */
    private static final class Draw {
        private final Random random;
        private final Model model;
        private final int[] weights;
        private final int[] sizes;
        private final boolean isSmall;

        Draw(Random random, int run, Model model) {
            this.random = random;
            this.model = model;
            isSmall = run % 2 == 0;
            int weeks = new int[] {30, 60, 150, 10}[run % 4];
            weights = new int[] {4, 3, 3, 3, 8, 8, 30, 20, 20, 20, 25, 20, run % 3 == 0 ? 1 : 6, weeks,
                1, 1, 4, 8, 6, 8, 4, 4, 10, 6};
            sizes = isSmall ? new int[] {1, 7, 150, 3000} : new int[] {10, 5000, 200000, 1000000};
        }

        /** Some runs go to the last call; the others leave a look at the end. */
        int length() {
            return random.nextInt(8) == 0 ? MOST_CALLS : 1 + random.nextInt(MOST_CALLS - CALLS_OF_A_LOOK);
        }

        int[] next() {
            int call = 0;
            int sum = 0;
            for (int weight : weights) {
                sum += weight;
            }
            for (int left = random.nextInt(sum); left >= weights[call]; call++) {
                left -= weights[call];
            }
            return filled(call);
        }

        private int[] filled(int call) {
            int student = in(0, 3);
            switch (call) {
                case 0: return of(call, in(0, 1), random.nextInt(2), isSmall ? in(0, 120) : in(0, 100000), 0);
                case 1: int from = in(1, 30); return of(call, from, in(from < 1 || from > 30 ? 1 : from, 30), 0, 0);
                case 2: return of(call, in(0, 15), in(0, 100), 0, 0);
                case 3: return of(call, isSmall ? in(0, 90) : in(0, 100000), sum(0, random.nextInt(4)), 0, 0);
                case 4: return of(call, student, in(0, 1), random.nextInt(2), sum(0, student));
                case 5: return of(call, student, in(0, 7), sum(0, student), 0);
                case 6: return of(call, student, in(1, 10), 0, 0);
                case 7: return of(call, student, in(0, 7), 0, 0);
                case 8: return of(call, student, in(1, 2), sum(1, student), 0);
                case 9: return of(call, student, in(0, 2), sum(1, student), 0);
                case 10: return of(call, student, sum(1, student), 0, 0);
                case 11: return of(call, student, in(1, 4), 0, 0);
                case 17: return of(call, student, in(0, 2), 0, 0);
                case 19: return of(call, student, in(0, 5), 0, 0);
                case 20: return of(call, student, in(0, 5), 0, 0);
                default: return of(call, student, 0, 0, 0);
            }
        }

        private static int[] of(int... call) {
            return call;
        }

        private int sum(int least, int student) {
            if (random.nextInt(3) == 0 && student >= 0 && student < 4) {
                List<Long> sums = model.sumsOfNote(student);
                long sum = sums.get(random.nextInt(sums.size())) + random.nextInt(3) - 1;
                if (sum >= least && sum <= 1000000) {
                    return (int) sum;
                }
            }
            return random.nextInt(30) == 0 ? in(least, 1000000) : in(least, sizes[random.nextInt(sizes.length)]);
        }

        private int in(int least, int most) {
            int dice = random.nextInt(200);
            if (dice < 4) {
                return new int[] {least - 1, most + 1, Integer.MIN_VALUE, Integer.MAX_VALUE}[dice];
            }
            if (dice < 10) {
                return dice % 2 == 0 ? least : most;
            }
            return least + random.nextInt(most - least + 1);
        }
    }
}
