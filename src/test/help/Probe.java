import java.util.ArrayList;
import java.util.List;
import java.util.function.Function;
import java.util.function.Supplier;

/** What can be found out about the state of a bill; each probe has a twin of its own, as most change it. */
final class Probe {
    private static final int STUDENTS = 4;
    /** Millions that no sponsor and six awards cover together. */
    private static final int MORE_THAN_COVER = 8;
    /** Behind these numbers of courses, one by one, each number of credits from 1 to 31 was there once. */
    private static final int[][] CREDITS_UP_TO_31 = {
        {1, 1, 1, 1, 1, 1, 1, 1}, {9, 1, 1, 1, 1, 1, 1, 1}, {10, 7, 1, 1, 1, 1, 1, 1}, {10, 10, 5, 1, 1, 1, 1, 1, 1}};

    private static final List<Function<Bill, String>> PROBES =
        List.of(Probe::look, Probe::coursesAndAwards, Probe::ratesAndShares, Probe::band, Probe::plansAndFee,
            Probe::needsAndSponsors, Probe::limitOfHolds);

    private Probe() {
    }

    static List<String> all(Supplier<Bill> twins) {
        List<String> all = new ArrayList<>();
        for (Function<Bill, String> probe : PROBES) {
            all.add(probe.apply(twins.get()));
        }
        return all;
    }

    /** What the calls of the document's last group tell. */
    static String look(Bill bill) {
        StringBuilder all = new StringBuilder();
        all.append("term ").append(bill.term()).append(", week ").append(bill.week());
        for (int i = 0; i < STUDENTS; i++) {
            int student = i;
            all.append(" | ").append(bill.credits(student)).append(" credits, charged");
            for (int kind = 0; kind < 3; kind++) {
                all.append(' ').append(bill.charged(student, kind));
            }
            all.append(", sponsored ").append(bill.sponsored(student)).append(", paid ").append(bill.paid(student));
            all.append(", owed ").append(bill.owed(student)).append(bill.hasHold(student) ? ", held" : "");
            for (int j = 0; j < 6; j++) {
                int award = j;
                all.append(' ').append(answer(() -> bill.used(student, award) + " of " + bill.amountOf(student, award)));
            }
        }
        return all.toString();
    }

    private static String coursesAndAwards(Bill bill) {
        StringBuilder all = new StringBuilder("courses and awards");
        for (int i = 0; i < STUDENTS; i++) {
            int student = i;
            for (int j = 0; j < 8; j++) {
                int course = j;
                all.append(' ').append(answer(() -> bill.drop(student, course)));
            }
            all.append(", next ").append(answer(() -> bill.take(student, 1)));
            all.append(' ').append(answer(() -> bill.award(student, TermBill.WORK, 1)));
        }
        return all.toString();
    }

    private static String ratesAndShares(Bill bill) {
        StringBuilder all = new StringBuilder("rates");
        for (int level = 0; level < 2; level++) {
            all.append(' ').append(bill.setRate(level, true, 1)).append(' ').append(bill.setRate(level, false, 1));
        }
        all.append(", shares");
        for (int week = 0; week < 16; week++) {
            all.append(' ').append(bill.setShare(week, 0));
        }
        return all.toString();
    }

    private static String band(Bill bill) {
        StringBuilder all = new StringBuilder("band");
        for (int level = 0; level < 2; level++) {
            bill.setRate(level, true, 1);
            bill.setRate(level, false, 1);
        }
        beginTerm(bill);
        for (int i = 0; i < STUDENTS; i++) {
            int student = i;
            for (int credits : CREDITS_UP_TO_31[i]) {
                all.append(' ').append(answer(() -> bill.take(student, credits)));
                all.append(':').append(bill.charged(student, TermBill.TUITION));
            }
        }
        return all.toString();
    }

    /** The plans that there are, week by week; then the late fee, by new ones. */
    private static String plansAndFee(Bill bill) {
        StringBuilder all = new StringBuilder("late fees");
        for (int week = 0; week < 9; week++) {
            all.append(" |").append(answer(() -> bill.closeWeek()));
            for (int student = 0; student < STUDENTS; student++) {
                all.append(' ').append(bill.charged(student, TermBill.FEES));
            }
        }
        for (int i = 0; i < STUDENTS; i++) {
            int student = i;
            all.append(" | ").append(answer(() -> bill.plan(student, 1)));
        }
        all.append(answer(() -> bill.closeWeek())).append(answer(() -> bill.closeWeek()));
        return all.append(look(bill)).toString();
    }

    private static String needsAndSponsors(Bill bill) {
        for (int i = 0; i < STUDENTS; i++) {
            int student = i;
            answer(() -> bill.award(student, TermBill.GRANT, 1000000));
            bill.charge(student, TermBill.FEES, 1000000);
            bill.charge(student, TermBill.HOUSING, 1000000);
        }
        return "needs and sponsors " + look(bill);
    }

    /** A balance is brought down to 524288, 262144 .. 1 and 0: a limit between two of them is seen at the lower. */
    private static String limitOfHolds(Bill bill) {
        for (int i = 0; i < MORE_THAN_COVER; i++) {
            bill.charge(0, TermBill.HOUSING, 1000000);
        }
        StringBuilder all = new StringBuilder("limit");
        int owed = bill.owed(0);
        for (int aim = 524288; ; aim /= 2) {
            while (owed > aim) {
                owed = bill.pay(0, Math.min(owed - aim, 1000000));
            }
            all.append(' ').append(owed).append(bill.hasHold(0));
            if (aim == 0) {
                return all.toString();
            }
        }
    }

    /** Courses and awards can be full, so that a fresh term shows more; the last one has none behind it. */
    private static void beginTerm(Bill bill) {
        for (int i = 0; i < 16 && (i == 0 || bill.week() != 0); i++) {
            answer(() -> bill.closeWeek());
        }
    }

    static String answer(Supplier<Object> call) {
        try {
            return String.valueOf(call.get());
        } catch (RuntimeException e) {
            return e.getClass().getSimpleName();
        }
    }
}
