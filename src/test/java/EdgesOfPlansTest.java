/** Payment plans at their edges: how a sum is divided, when instalments fall due, and what late fees need. */
public final class EdgesOfPlansTest extends Check {
    private static final int FEES = TermBill.FEES, HOUSING = TermBill.HOUSING;
    private static final int LATE = 1000;

    public static void main(String[] args) {
        firstInstalments();
        planOfWhatItOwesThen();
        whoOwesNothing();
        weeksAtWhichInstalmentsFallDue();
        instalmentsInLaterTerms();
        instalmentsBehindTheLastTerm();
        paidJustEnough();
        paidOneTooLittle();
        allInstalmentsThatAreDue();
        paidInTheWeeksAround();
        paidAheadOfThePlan();
        instalmentsOfNothing();
        lateFeeAsItIsThen();
        lateFeeIsAChargeOfFees();
        laterPlanInPlace();
        laterPlanInTheSameWeek();
        refusedPlanLeavesTheOneBefore();
        laterChargesAreNotInThePlan();
        leavingLeavesThePlan();
        paidSinceInALaterTerm();
        carryingIsNotPaid();
        creditIsNotPaidSince();
        lateFeeInAWeekZero();
        plansOfAllStudents();
        end("EdgesOfPlansTest");
    }

    /** A student owes so much; the late fee is 1000. */
    private static Bill owing(int student, int amount) {
        Bill x = new Bill();
        x.setFees(LATE, 0);
        x.charge(student, HOUSING, amount);
        return x;
    }

    /** Weeks end, and behind each one the student has so many late fees, counted from now. */
    private static void lateFees(String what, Bill x, int student, int... want) {
        int ahead = x.owed(student);
        for (int i = 0; i < want.length; i++) {
            x.closeWeek();
            due(what + ", late fees " + (i + 1) + " weeks behind", (x.owed(student) - ahead) / LATE, want[i]);
        }
    }

    /** "each is that divided by how many, rounded down, but the first one has what is left over besides". */
    private static void firstInstalments() {
        about("the first instalment");
        int[][] cases = {{1, 1, 1, 1, 1}, {2, 2, 1, 2, 2}, {3, 3, 2, 1, 3}, {4, 4, 2, 2, 1}, {5, 5, 3, 3, 2}, {6, 6, 3, 2, 3},
            {7, 7, 4, 3, 4}, {8, 8, 4, 4, 2}, {11, 11, 6, 5, 5}, {12, 12, 6, 4, 3}, {100, 100, 50, 34, 25}, {103, 103, 52, 35, 28},
            {999999, 999999, 500000, 333333, 250002}, {1000000, 1000000, 500000, 333334, 250000}};
        for (int[] each : cases) {
            for (int many = 1; many <= 4; many++) {
                Bill x = owing(3, each[0]);
                due("of " + each[0] + " in " + many, x.plan(3, many), each[many]);
                due("owed stays", x.owed(3), each[0]);
                due("nothing is paid by it", x.paid(3), 0);
            }
        }
    }

    /** "what a student owes then": behind sponsor, aid and payments. */
    private static void planOfWhatItOwesThen() {
        about("what it owes then");
        Bill x = owing(0, 100);
        x.setSponsor(0, 4, 20);
        x.award(0, TermBill.LOAN, 30);
        x.pay(0, 10);
        due("in 1", x.plan(0, 1), 40);
        due("in 3", x.plan(0, 3), 14);
        x.pay(0, 39);
        due("the last cent", x.plan(0, 4), 1);
        x.take(0, 1);
        due("tuition too", x.plan(0, 1), 10001);
    }

    /** "if it owes nothing". */
    private static void whoOwesNothing() {
        for (int many = 1; many <= 4; many++) {
            int good = many;
            about("a plan in " + many);
            Bill x = owing(1, 5);
            fails("nothing charged", STATE, x, b -> b.plan(0, good));
            x.pay(1, 4);
            due("owes 1", x.plan(1, many), 1);
            x.pay(1, 1);
            fails("owes 0", STATE, x, b -> b.plan(1, good));
            x.pay(1, 1);
            fails("has a credit of 1", STATE, x, b -> b.plan(1, good));
            x.charge(1, FEES, 1);
            fails("owes 0 again", STATE, x, b -> b.plan(1, good));
            x.charge(1, FEES, 1);
            due("owes 1 again", x.plan(1, many), 1);
            x.award(1, TermBill.LOAN, 1);
            due("aid stands behind payments", x.owed(1), 0);
            fails("all aided", STATE, x, b -> b.plan(1, good));
        }
    }

    /** "at the beginnings of the second, fourth, sixth and eighth week behind that week, as many as there are". */
    private static void weeksAtWhichInstalmentsFallDue() {
        about("weeks at which instalments fall due");
        int[][] want = {{0, 1, 1, 1, 1, 1, 1, 1, 1, 1, 1, 1}, {0, 1, 1, 2, 2, 2, 2, 2, 2, 2, 2, 2},
            {0, 1, 1, 2, 2, 3, 3, 3, 3, 3, 3, 3}, {0, 1, 1, 2, 2, 3, 3, 4, 4, 4, 4, 4}};
        for (int many = 1; many <= 4; many++) {
            for (int week : new int[] {0, 1, 2, 3}) {
                Bill x = owing(2, 401);
                x.close(week);
                x.plan(2, many);
                lateFees("made in week " + week + " in " + many, x, 2, want[many - 1]);
            }
        }
    }

    /** "also in later terms": made in each week of a term, up to the last one. */
    private static void instalmentsInLaterTerms() {
        about("instalments in later terms");
        int[] want = {0, 1, 1, 2, 2, 3, 3, 4, 4, 4};
        for (int term : new int[] {0, 7, 8}) {
            for (int week = 0; week < 16; week++) {
                Bill x = owing(0, 401);
                x.close(16 * term + week);
                x.plan(0, 4);
                lateFees("made in week " + week + " of term " + term, x, 0, want);
                due("week", x.week(), (week + 10) % 16);
            }
        }
    }

    /** The last week of the last term: what would fall due behind it never does. */
    private static void instalmentsBehindTheLastTerm() {
        about("the last term");
        for (int week = 7; week < 16; week++) {
            Bill x = owing(0, 401);
            x.close(16 * 9 + week);
            x.plan(0, 4);
            int left = 15 - week;
            x.close(left);
            due("late fees behind week " + week, x.charged(0, FEES), 401 + LATE * (left / 2));
            fails("no week behind", STATE, x, b -> b.closeWeek());
            due("late fees behind week " + week, x.charged(0, FEES), 401 + LATE * (left / 2));
        }
    }

    /** "and what was paid .. is less than all instalments that are due by then": just as much is not less. */
    private static void paidJustEnough() {
        about("paid just enough");
        Bill x = owing(3, 103);
        x.plan(3, 4);
        int[] payments = {28, 25, 25, 25};
        for (int payment : payments) {
            x.pay(3, payment);
            x.close(2);
            due("fees", x.charged(3, FEES), 0);
        }
        due("owed", x.owed(3), 0);
        Bill y = owing(3, 103);
        y.plan(3, 4);
        y.pay(3, 103);
        lateFees("all at once", y, 3, 0, 0, 0, 0, 0, 0, 0, 0, 0);
        Bill z = owing(3, 103);
        z.plan(3, 1);
        z.pay(3, 103);
        lateFees("the only one", z, 3, 0, 0, 0, 0);
        Bill more = owing(3, 103);
        more.plan(3, 2);
        more.pay(3, 1000000);
        lateFees("more than all", more, 3, 0, 0, 0, 0, 0, 0);
    }

    /** One cent less than is due, at each of the four; later instalments are paid in time. */
    private static void paidOneTooLittle() {
        about("paid one too little");
        int[] dues = {28, 53, 78, 103};
        for (int which = 0; which < 4; which++) {
            Bill x = owing(1, 103);
            x.plan(1, 4);
            int paid = 0;
            for (int i = 0; i < 4; i++) {
                int aim = i == which ? dues[i] - 1 : dues[i];
                x.pay(1, aim - paid);
                paid = aim;
                x.close(2);
                due("late fees, one too little at " + which + ", behind " + i, x.charged(1, FEES), i >= which ? LATE : 0);
            }
        }
    }

    /** "all instalments that are due by then", those of earlier weeks too. */
    private static void allInstalmentsThatAreDue() {
        about("all instalments that are due");
        Bill x = owing(0, 100);
        x.plan(0, 4);
        x.close(2);
        due("late", x.charged(0, FEES), LATE);
        x.pay(0, 25);
        x.close(2);
        due("25 of 50", x.charged(0, FEES), 2 * LATE);
        x.pay(0, 49);
        x.close(2);
        due("74 of 75", x.charged(0, FEES), 3 * LATE);
        x.pay(0, 26);
        x.close(2);
        due("100 of 100", x.charged(0, FEES), 3 * LATE);
        x.close(6);
        due("none behind the last one", x.charged(0, FEES), 3 * LATE);
        Bill y = owing(0, 100);
        y.plan(0, 4);
        y.pay(0, 75);
        lateFees("ahead of three", y, 0, 0, 0, 0, 0, 0, 0, 0, 1, 1, 1);
    }

    /** "When a week begins, at which an instalment falls due": what is paid in that week is too late. */
    private static void paidInTheWeeksAround() {
        about("paid around the week");
        for (int week = 0; week <= 3; week++) {
            Bill x = owing(2, 50);
            x.plan(2, 1);
            x.close(week);
            x.pay(2, 50);
            x.close(5);
            due("paid " + week + " weeks behind", x.charged(2, FEES), week < 2 ? 0 : LATE);
        }
    }

    /** "what was paid since the plan was made": in the same week, but behind it. */
    private static void paidAheadOfThePlan() {
        about("paid ahead of the plan");
        Bill x = owing(0, 100);
        x.pay(0, 60);
        due("first", x.plan(0, 1), 40);
        x.pay(0, 39);
        lateFees("39 since", x, 0, 0, 1, 1);
        Bill y = owing(0, 100);
        y.pay(0, 60);
        y.plan(0, 1);
        y.pay(0, 40);
        lateFees("40 since", y, 0, 0, 0, 0);
        Bill z = owing(0, 100);
        z.plan(0, 1);
        z.pay(1, 100);
        lateFees("paid by another one", z, 0, 0, 1, 1);
    }

    /** "rounded down" to 0: such instalments fall due too, with what the first one leaves unpaid. */
    private static void instalmentsOfNothing() {
        about("instalments of 0");
        Bill x = owing(1, 1);
        due("first", x.plan(1, 4), 1);
        lateFees("nothing paid", x, 1, 0, 1, 1, 2, 2, 3, 3, 4, 4, 4);
        Bill y = owing(1, 3);
        due("first", y.plan(1, 4), 3);
        y.pay(1, 2);
        y.close(2);
        y.pay(1, 1);
        lateFees("paid behind the first", y, 1, 0, 0, 0, 0, 0, 0, 0);
        due("one late fee", y.charged(1, FEES), LATE);
        Bill z = owing(1, 3);
        z.plan(1, 4);
        z.pay(1, 3);
        lateFees("all paid", z, 1, 0, 0, 0, 0, 0, 0, 0, 0);
    }

    /** "fee: 0 to 100000"; the fee when it falls due, not when the plan is made. */
    private static void lateFeeAsItIsThen() {
        about("the late fee");
        Bill x = new Bill();
        x.charge(0, HOUSING, 100);
        x.plan(0, 4);
        x.close(2);
        due("of a new object", x.charged(0, FEES), 2500);
        x.setFees(0, 0);
        x.close(2);
        due("0", x.charged(0, FEES), 2500);
        x.setFees(100000, 0);
        x.close(1);
        due("none yet", x.charged(0, FEES), 2500);
        x.close(1);
        due("100000", x.charged(0, FEES), 102500);
        x.setFees(1, 1000000);
        x.close(2);
        due("1", x.charged(0, FEES), 102501);
        due("owed", x.owed(0), 102601);
    }

    /** "the student has a late fee, a charge of the kind FEES". */
    private static void lateFeeIsAChargeOfFees() {
        about("a late fee");
        Bill x = owing(2, 50);
        x.charge(2, FEES, 7);
        x.plan(2, 1);
        x.setSponsor(2, 2, 1000000);
        x.close(2);
        due("added to fees", x.charged(2, FEES), LATE + 7);
        due("not to housing", x.charged(2, HOUSING), 50);
        due("sponsored", x.sponsored(2), LATE + 7);
        due("owed", x.owed(2), 50);
        x.setSponsor(2, 0, 0);
        x.award(2, TermBill.LOAN, LATE);
        due("aided", x.used(2, 0), LATE);
        due("charged behind it", x.charge(2, FEES, 1), LATE + 8);
        due("nothing is paid by it", x.paid(2), 0);
    }

    /** "A later plan of the student takes the place of the one before." */
    private static void laterPlanInPlace() {
        about("a later plan");
        Bill x = owing(0, 100);
        x.plan(0, 4);
        x.close(1);
        x.plan(0, 1);
        lateFees("instead of the second week", x, 0, 0, 1, 1, 1, 1, 1, 1, 1, 1);
        Bill y = owing(0, 100);
        y.plan(0, 2);
        y.pay(0, 60);
        y.close(3);
        due("the first one is paid", y.charged(0, FEES), 0);
        due("of what it owes then", y.plan(0, 2), 20);
        lateFees("what was paid ahead of it does not count", y, 0, 0, 1, 1, 2, 2, 2);
        Bill z = owing(0, 100);
        z.plan(0, 1);
        z.close(2);
        due("late", z.charged(0, FEES), LATE);
        due("of the late fee too", z.plan(0, 2), 550);
        z.pay(0, 550);
        lateFees("the first one is paid", z, 0, 0, 0, 0, 1, 1);
        Bill other = owing(0, 100);
        other.charge(1, HOUSING, 100);
        other.plan(0, 1);
        other.close(1);
        other.plan(1, 1);
        lateFees("another one's plan takes no place", other, 0, 1, 1, 1);
    }

    private static void laterPlanInTheSameWeek() {
        about("a later plan in the same week");
        Bill x = owing(3, 100);
        x.plan(3, 4);
        x.pay(3, 60);
        due("first", x.plan(3, 1), 40);
        x.pay(3, 39);
        lateFees("39 since", x, 3, 0, 1, 1, 1, 1, 1, 1, 1);
        Bill y = owing(3, 100);
        y.plan(3, 1);
        y.plan(3, 4);
        y.pay(3, 25);
        lateFees("in 4 instead of 1", y, 3, 0, 0, 0, 1, 1, 2, 2, 3, 3);
        Bill z = owing(3, 100);
        z.plan(3, 4);
        z.plan(3, 1);
        z.pay(3, 25);
        lateFees("in 1 instead of 4", z, 3, 0, 1, 1, 1, 1, 1, 1, 1, 1);
    }

    /** "A call that throws an exception changes nothing": the plan before goes on. */
    private static void refusedPlanLeavesTheOneBefore() {
        about("a refused plan");
        Bill x = owing(1, 100);
        x.plan(1, 2);
        x.pay(1, 20);
        x.close(1);
        fails("many 0", ARGUMENT, x, b -> b.plan(1, 0));
        fails("many 5", ARGUMENT, x, b -> b.plan(1, 5));
        x.setSponsor(1, 4, 1000);
        fails("owes nothing", STATE, x, b -> b.plan(1, 1));
        x.setSponsor(1, 0, 0);
        lateFees("20 of 50, then of 100", x, 1, 1, 1, 2, 2, 2);
        Bill y = owing(1, 100);
        y.plan(1, 2);
        y.pay(1, 100);
        fails("owes nothing", STATE, y, b -> b.plan(1, 1));
        lateFees("what was paid stays", y, 1, 0, 0, 0, 0, 0);
    }

    /** "what a student owes then": later charges are in no instalment. */
    private static void laterChargesAreNotInThePlan() {
        about("charges behind the plan");
        Bill x = owing(0, 100);
        x.plan(0, 2);
        x.charge(0, HOUSING, 1000);
        x.take(0, 5);
        x.pay(0, 50);
        x.close(2);
        due("the first one is paid", x.charged(0, FEES), 0);
        x.pay(0, 50);
        x.close(2);
        due("both are paid", x.charged(0, FEES), 0);
        Bill y = owing(0, 100);
        y.plan(0, 2);
        y.setSponsor(0, 4, 100);
        due("owes nothing more", y.owed(0), 0);
        y.close(2);
        due("the instalments stay", y.charged(0, FEES), LATE);
    }

    /** Nothing in the document ends a plan but a later one. */
    private static void leavingLeavesThePlan() {
        about("leaving with a plan");
        Bill x = new Bill();
        x.setFees(LATE, 0);
        x.take(0, 1);
        x.plan(0, 1);
        x.leave(0);
        due("owes nothing", x.owed(0), 0);
        x.close(2);
        due("late", x.charged(0, FEES), LATE);
    }

    /** "and so do plans, with what was paid since". */
    private static void paidSinceInALaterTerm() {
        about("what was paid in a term and in the next");
        for (int last : new int[] {49, 50}) {
            Bill x = owing(0, 200);
            x.close(13);
            x.plan(0, 4);
            x.pay(0, 100);
            x.close(3);
            due("week", x.week(), 0);
            due("what was paid is no payment of this term", x.paid(0), 0);
            due("two are paid", x.charged(0, FEES), 100);
            x.close(1);
            due("two are paid", x.charged(0, FEES), 100);
            x.pay(0, last);
            x.close(2);
            due(last + " of the third", x.charged(0, FEES), last == 50 ? 100 : 100 + LATE);
            x.pay(0, 100 - last);
            x.close(2);
            due("all are paid", x.charged(0, FEES), last == 50 ? 100 : 100 + LATE);
        }
    }

    /** "with what was paid since (which carrying does not change)", for either side. */
    private static void carryingIsNotPaid() {
        about("carrying and a plan");
        Bill x = owing(0, 100);
        x.pay(1, 100);
        x.close(15);
        x.plan(0, 1);
        x.close(1);
        due("carried", x.owed(0), 0);
        x.close(1);
        due("but not paid since", x.charged(0, FEES), LATE);
        Bill y = owing(3, 100);
        y.charge(2, HOUSING, 100);
        y.close(15);
        y.plan(3, 1);
        y.pay(3, 150);
        y.close(1);
        due("the credit is carried", y.owed(3), 0);
        due("to the other", y.owed(2), 50);
        y.close(1);
        due("but was paid since", y.charged(3, FEES), 0);
    }

    /** What counts as paid at the beginning of a term was not paid since the plan was made. */
    private static void creditIsNotPaidSince() {
        about("a credit and a plan");
        Bill x = new Bill();
        x.setFees(LATE, 0);
        x.takeAll(0, 1, 1);
        x.pay(0, 15000);
        x.close(15);
        due("first", x.plan(0, 1), 5000);
        x.setShare(15, 0);
        x.drop(0, 0);
        x.close(1);
        due("a credit counts as paid", x.paid(0), 5000);
        due("owed", x.owed(0), -5000);
        x.close(1);
        due("late", x.charged(0, FEES), LATE);
        due("owed", x.owed(0), LATE - 5000);
    }

    /** "When a week begins (a new term has begun by then, too)". */
    private static void lateFeeInAWeekZero() {
        about("a late fee in the week 0");
        Bill x = owing(0, 100);
        x.pay(1, 5000);
        x.close(14);
        x.plan(0, 1);
        x.setSponsor(0, 2, 1000000);
        x.award(0, TermBill.LOAN, 60);
        x.close(2);
        due("week", x.week(), 0);
        due("term", x.term(), 1);
        due("fees", x.charged(0, FEES), LATE);
        due("the sponsor is gone by then", x.sponsored(0), 0);
        due("owed", x.owed(0), LATE);
        due("carried ahead of it", x.owed(1), 40 - 5000);
        due("housing", x.charged(0, HOUSING), 0);
        Bill y = owing(3, 100);
        y.close(8);
        y.plan(3, 4);
        y.pay(3, 99);
        lateFees("the fourth one at the week 0", y, 3, 0, 0, 0, 0, 0, 0, 0, 1, 1);
        due("fees", y.charged(3, FEES), 1 + LATE);
    }

    private static void plansOfAllStudents() {
        about("plans of all students");
        Bill x = new Bill();
        x.setFees(LATE, 0);
        int[] first = {100, 50, 34, 25};
        for (int student = 0; student < 4; student++) {
            x.charge(student, HOUSING, 100);
            due("first", x.plan(student, student + 1), first[student]);
        }
        x.pay(1, 100);
        int[][] want = {{0, 0, 0, 0}, {1, 0, 1, 1}, {1, 0, 1, 1}, {1, 0, 2, 2}, {1, 0, 2, 2}, {1, 0, 3, 3}, {1, 0, 3, 3}, {1, 0, 3, 4},
            {1, 0, 3, 4}, {1, 0, 3, 4}};
        for (int i = 0; i < want.length; i++) {
            x.closeWeek();
            for (int student = 0; student < 4; student++) {
                due("late fees of " + student + ", week " + (i + 1), x.charged(student, FEES), LATE * want[i][student]);
            }
        }
    }
}
