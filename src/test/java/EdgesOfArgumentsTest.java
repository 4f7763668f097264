import java.util.List;
import java.util.function.Consumer;
import java.util.function.Supplier;

/**
 * The arguments of each call: the last value that is taken and the first that is refused, on both sides; the
 * exception that is thrown if several apply; and that a refused call changes nothing.
 */
public final class EdgesOfArgumentsTest extends Check {
    private static final int LEAST_INT = Integer.MIN_VALUE;
    private static final int MOST_INT = Integer.MAX_VALUE;

    public static void main(String[] args) {
        argumentsOfSettings();
        argumentsOfWhatHappens();
        argumentsOfWhatThereIs();
        studentIsLookedAtFirst();
        argumentsAreLookedAtAheadOfStates();
        statesThatRefuse();
        refusedCallsInARow();
        lookingChangesNothing();
        end("EdgesOfArgumentsTest");
    }

    private interface CallWith {
        void make(Bill bill, int value);
    }

    /** A bill on which everything is in use, so that a change would be seen; student 3 has dropped nothing. */
    private static Bill busy() {
        Bill x = new Bill();
        x.setRate(0, true, 101);
        x.setRate(0, false, 103);
        x.setRate(1, true, 107);
        x.setRate(1, false, 109);
        x.setBand(5, 20);
        for (int week = 0; week < 16; week++) {
            x.setShare(week, 20 + week);
        }
        x.setFees(777, 999);
        x.charge(2, TermBill.FEES, 4000);
        x.plan(2, 4);
        x.pay(3, 50);
        x.close(18);
        for (int student = 0; student < 4; student++) {
            x.setStudent(student, student / 2, student % 2 == 0, 60 + student);
            x.setSponsor(student, 7 - student, 300 + student);
            x.takeAll(student, 4, 3, 2);
            if (student < 3) {
                x.drop(student, 2);
            }
            x.charge(student, TermBill.FEES, 1000 + student);
            x.charge(student, TermBill.HOUSING, 2000 + student);
            x.award(student, TermBill.LOAN, 70 + student);
            x.award(student, TermBill.GRANT, 80 + student);
            x.pay(student, 5 + student);
        }
        x.plan(0, 3);
        x.plan(1, 4);
        return x;
    }

    /** Each value from the least one to the most one is taken, those beside them are refused. */
    private static void range(String what, Class<?> want, int least, int most, CallWith call) {
        about(what);
        taken(least + "", b -> call.make(b, least));
        taken(most + "", b -> call.make(b, most));
        for (int value : new int[] {least - 1, most + 1, LEAST_INT, MOST_INT}) {
            fails(value + "", want, busy(), b -> call.make(b, value));
        }
    }

    private static void taken(String what, Consumer<Bill> call) {
        Bill bill = busy();
        due(what + " throws", Probe.answer(() -> {
            call.accept(bill);
            return "nothing";
        }), "nothing");
    }

    private static void argumentsOfSettings() {
        range("setRate, level: 0 or 1", ARGUMENT, 0, 1, (b, v) -> b.setRate(v, true, 5));
        range("setRate, level: 0 or 1", ARGUMENT, 0, 1, (b, v) -> b.setRate(v, false, 5));
        range("setRate, rate: 0 to 100000", ARGUMENT, 0, 100000, (b, v) -> b.setRate(0, true, v));
        range("setRate, rate: 0 to 100000", ARGUMENT, 0, 100000, (b, v) -> b.setRate(1, false, v));
        range("setBand, from: 1 to 30", ARGUMENT, 1, 30, (b, v) -> b.setBand(v, 30));
        range("setBand, from and to", ARGUMENT, 1, 30, (b, v) -> b.setBand(v, v));
        range("setBand, to: from 1 to 30", ARGUMENT, 1, 30, (b, v) -> b.setBand(1, v));
        range("setBand, to: from 7 to 30", ARGUMENT, 7, 30, (b, v) -> b.setBand(7, v));
        range("setBand, to: from 30 to 30", ARGUMENT, 30, 30, (b, v) -> b.setBand(30, v));
        range("setShare, week: 0 to 15", ARGUMENT, 0, 15, (b, v) -> b.setShare(v, 5));
        for (int week : new int[] {0, 15}) {
            range("setShare, share: 0 to 100", ARGUMENT, 0, 100, (b, v) -> b.setShare(week, v));
        }
        range("setFees, fee: 0 to 100000", ARGUMENT, 0, 100000, (b, v) -> b.setFees(v, 5));
        range("setFees, limit: 0 to 1000000", ARGUMENT, 0, 1000000, (b, v) -> b.setFees(5, v));
        range("setStudent, student: 0 to 3", INDEX, 0, 3, (b, v) -> b.setStudent(v, 1, false, 5));
        range("setStudent, level: 0 or 1", ARGUMENT, 0, 1, (b, v) -> b.setStudent(0, v, false, 5));
        range("setStudent, need: 0 to 1000000", ARGUMENT, 0, 1000000, (b, v) -> b.setStudent(3, 0, true, v));
        range("setSponsor, student: 0 to 3", INDEX, 0, 3, (b, v) -> b.setSponsor(v, 2, 5));
        range("setSponsor, kinds: 0 to 7", ARGUMENT, 0, 7, (b, v) -> b.setSponsor(0, v, 5));
        range("setSponsor, limit: 0 to 1000000", ARGUMENT, 0, 1000000, (b, v) -> b.setSponsor(3, 1, v));
    }

    private static void argumentsOfWhatHappens() {
        range("take, student: 0 to 3", INDEX, 0, 3, (b, v) -> b.take(v, 5));
        range("take, credits: 1 to 10", ARGUMENT, 1, 10, (b, v) -> b.take(0, v));
        range("drop, student: 0 to 3", INDEX, 0, 3, (b, v) -> b.drop(v, 1));
        range("drop, course: a course of it", INDEX, 0, 2, (b, v) -> b.drop(3, v));
        range("charge, student: 0 to 3", INDEX, 0, 3, (b, v) -> b.charge(v, TermBill.FEES, 5));
        range("charge, kind: FEES or HOUSING", ARGUMENT, TermBill.FEES, TermBill.HOUSING, (b, v) -> b.charge(0, v, 5));
        for (int kind = TermBill.FEES; kind <= TermBill.HOUSING; kind++) {
            int good = kind;
            range("charge, amount: 1 to 1000000", ARGUMENT, 1, 1000000, (b, v) -> b.charge(3, good, v));
        }
        range("award, student: 0 to 3", INDEX, 0, 3, (b, v) -> b.award(v, TermBill.WORK, 5));
        range("award, rank: GRANT, WORK or LOAN", ARGUMENT, TermBill.GRANT, TermBill.LOAN, (b, v) -> b.award(0, v, 5));
        for (int rank = TermBill.GRANT; rank <= TermBill.LOAN; rank++) {
            int good = rank;
            range("award, amount: 1 to 1000000", ARGUMENT, 1, 1000000, (b, v) -> b.award(3, good, v));
        }
        range("pay, student: 0 to 3", INDEX, 0, 3, (b, v) -> b.pay(v, 5));
        range("pay, amount: 1 to 1000000", ARGUMENT, 1, 1000000, (b, v) -> b.pay(0, v));
        range("plan, student: 0 to 3", INDEX, 0, 3, (b, v) -> b.plan(v, 2));
        range("plan, many: 1 to 4", ARGUMENT, 1, 4, (b, v) -> b.plan(3, v));
        range("leave, student: 0 to 3", INDEX, 0, 3, (b, v) -> b.leave(v));
    }

    private static void argumentsOfWhatThereIs() {
        range("credits, student: 0 to 3", INDEX, 0, 3, (b, v) -> b.credits(v));
        range("charged, student: 0 to 3", INDEX, 0, 3, (b, v) -> b.charged(v, TermBill.TUITION));
        range("charged, kind: TUITION, FEES or HOUSING", ARGUMENT, TermBill.TUITION, TermBill.HOUSING,
            (b, v) -> b.charged(0, v));
        range("sponsored, student: 0 to 3", INDEX, 0, 3, (b, v) -> b.sponsored(v));
        range("used, student: 0 to 3", INDEX, 0, 3, (b, v) -> b.used(v, 1));
        range("used, award: an award of it", INDEX, 0, 1, (b, v) -> b.used(0, v));
        range("amountOf, student: 0 to 3", INDEX, 0, 3, (b, v) -> b.amountOf(v, 1));
        range("amountOf, award: an award of it", INDEX, 0, 1, (b, v) -> b.amountOf(0, v));
        range("paid, student: 0 to 3", INDEX, 0, 3, (b, v) -> b.paid(v));
        range("owed, student: 0 to 3", INDEX, 0, 3, (b, v) -> b.owed(v));
        range("hasHold, student: 0 to 3", INDEX, 0, 3, (b, v) -> b.hasHold(v));
    }

    /** "if several exceptions apply, the one that its @throws lines name first is thrown": no such student. */
    private static void studentIsLookedAtFirst() {
        about("no such student, and another argument is wrong too");
        for (int student : WRONG_STUDENTS) {
            fails("setStudent, level", INDEX, busy(), b -> b.setStudent(student, 2, true, 5));
            fails("setStudent, need", INDEX, busy(), b -> b.setStudent(student, 1, true, -1));
            fails("setSponsor, kinds", INDEX, busy(), b -> b.setSponsor(student, 8, 5));
            fails("setSponsor, limit", INDEX, busy(), b -> b.setSponsor(student, 7, 1000001));
            fails("take, 0 credits", INDEX, busy(), b -> b.take(student, 0));
            fails("take, 11 credits", INDEX, busy(), b -> b.take(student, 11));
            fails("drop, course -1", INDEX, busy(), b -> b.drop(student, -1));
            fails("drop, dropped course", INDEX, busy(), b -> b.drop(student, 2));
            fails("charge, kind", INDEX, busy(), b -> b.charge(student, TermBill.TUITION, 5));
            fails("charge, amount", INDEX, busy(), b -> b.charge(student, TermBill.FEES, 0));
            fails("award, rank", INDEX, busy(), b -> b.award(student, 3, 5));
            fails("award, amount", INDEX, busy(), b -> b.award(student, TermBill.LOAN, 1000001));
            fails("pay, amount", INDEX, busy(), b -> b.pay(student, 0));
            fails("plan, many 0", INDEX, busy(), b -> b.plan(student, 0));
            fails("plan, many 5", INDEX, busy(), b -> b.plan(student, 5));
            fails("charged, kind", INDEX, busy(), b -> b.charged(student, 3));
            fails("used, award", INDEX, busy(), b -> b.used(student, -1));
            fails("amountOf, award", INDEX, busy(), b -> b.amountOf(student, 6));
        }
    }

    /** The same sentence: a wrong argument is named ahead of a state that refuses. */
    private static void argumentsAreLookedAtAheadOfStates() {
        about("a wrong argument, and a state that refuses too");
        Bill full = full();
        for (int credits : new int[] {LEAST_INT, 0, 11, MOST_INT}) {
            fails("take, all courses taken", ARGUMENT, full.twin(), b -> b.take(0, credits));
        }
        for (int rank : new int[] {-1, 3}) {
            fails("award, all awards there", ARGUMENT, full.twin(), b -> b.award(0, rank, 5));
        }
        for (int amount : new int[] {0, 1000001}) {
            fails("award, all awards there", ARGUMENT, full.twin(), b -> b.award(0, TermBill.GRANT, amount));
        }
        for (int course : new int[] {-1, 8, MOST_INT}) {
            fails("drop, all are dropped", INDEX, full.twin(), b -> b.drop(1, course));
        }
        for (int many : new int[] {LEAST_INT, 0, 5, MOST_INT}) {
            fails("plan, owes nothing", ARGUMENT, full.twin(), b -> b.plan(2, many));
            fails("plan, has a credit", ARGUMENT, full.twin(), b -> b.plan(3, many));
        }
    }

    /** Students 0 and 1 have all courses and awards, dropped by 1; 2 owes nothing, and 3 has a credit. */
    private static Bill full() {
        Bill x = new Bill();
        x.setFees(5, 0);
        for (int student = 0; student < 2; student++) {
            x.takeAll(student, 1, 2, 3, 4, 5, 6, 7, 8);
            for (int award = 0; award < 6; award++) {
                x.award(student, award % 3, 10 + award);
            }
        }
        x.close(1);
        for (int course = 0; course < 8; course++) {
            x.drop(1, course);
        }
        x.pay(3, 1);
        return x;
    }

    private static void statesThatRefuse() {
        about("a state that refuses");
        Bill full = full();
        for (int student = 0; student < 2; student++) {
            int one = student;
            for (int credits : new int[] {1, 10}) {
                fails("take, all courses taken", STATE, full.twin(), b -> b.take(one, credits));
            }
            for (int rank = 0; rank < 3; rank++) {
                int good = rank;
                fails("award, all awards there", STATE, full.twin(), b -> b.award(one, good, 1));
                fails("award, all awards there", STATE, full.twin(), b -> b.award(one, good, 1000000));
            }
        }
        for (int course = 0; course < 8; course++) {
            int one = course;
            fails("drop, dropped course " + course, STATE, full.twin(), b -> b.drop(1, one));
        }
        for (int many = 1; many <= 4; many++) {
            int good = many;
            fails("plan, owes nothing", STATE, full.twin(), b -> b.plan(2, good));
            fails("plan, has a credit", STATE, full.twin(), b -> b.plan(3, good));
        }
        Bill last = full.twin();
        last.close(158);
        last.takeAll(0, 9, 9);
        last.charge(1, TermBill.FEES, 40);
        last.pay(1, 50);
        fails("closeWeek, week 15 of the term 9", STATE, last, b -> b.closeWeek());
    }

    /** "A call that throws an exception changes nothing", also if many of them are made. */
    private static void refusedCallsInARow() {
        about("refused calls in a row");
        Bill full = full();
        Supplier<String> seen = () -> Probe.all(() -> full.twin()).toString();
        String before = seen.get();
        for (int i = 0; i < 10; i++) {
            fails("take", STATE, full, b -> b.take(0, 1));
            fails("award", STATE, full, b -> b.award(0, TermBill.GRANT, 1));
            fails("drop", STATE, full, b -> b.drop(1, 0));
            fails("plan", STATE, full, b -> b.plan(2, 1));
            fails("charge", ARGUMENT, full, b -> b.charge(0, TermBill.FEES, 0));
            fails("setBand", ARGUMENT, full, b -> b.setBand(2, 1));
        }
        due("all that is seen", seen.get(), before);
    }

    /** "Nothing is promised beyond the answers and state changes described above": looking has none. */
    private static void lookingChangesNothing() {
        about("calls that only look");
        for (Bill bill : List.of(new Bill(), busy(), full())) {
            List<String> before = Probe.all(() -> bill.twin());
            List<String> behind = Probe.all(() -> lookedAt(bill.twin()));
            for (int i = 0; i < before.size(); i++) {
                due("looking leaves", behind.get(i), before.get(i));
            }
        }
    }

    private static Bill lookedAt(Bill bill) {
        due("the second look", Probe.look(bill), Probe.look(bill));
        return bill;
    }
}
