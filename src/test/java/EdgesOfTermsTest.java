/** Weeks and terms at their edges: the last week, the last term, carrying, how a term begins, and the last call. */
public final class EdgesOfTermsTest extends Check {
    private static final int TUITION = TermBill.TUITION, FEES = TermBill.FEES, HOUSING = TermBill.HOUSING;
    private static final int[] ZEROS = {0, 0, 0, 0};

    public static void main(String[] args) {
        weeksAndTerms();
        lastWeekOfTheLastTerm();
        theLastWeekGoesOn();
        emptyTerms();
        carryingOfAFamily();
        familiesAreTwo();
        bothFamiliesAtOnce();
        carryingAtTheEndAlone();
        carryingAtEachEnd();
        carryingOfTheMost();
        carriedIsWhatItOwes();
        coursesOfANewTerm();
        awardsOfANewTerm();
        sponsorOfANewTerm();
        onlyChargeOfANewTerm();
        creditOfANewTerm();
        whatStays();
        holdsAcrossTerms();
        balancesAcrossAllTerms();
        eachCentOnce();
        lastCallOfCharges();
        lastCallOfPayments();
        lastCallOfWeeks();
        lastCallRefused();
        lastCallsOfOneStudent();
        objectsAreApart();
        end("EdgesOfTermsTest");
    }

    /** What a student owes is charged as housing, and a credit is paid. */
    private static void balance(Bill x, int student, int sum) {
        if (sum > 0) {
            x.charge(student, HOUSING, sum);
        } else if (sum < 0) {
            x.pay(student, -sum);
        }
    }

    private static void balances(String what, Bill x, int... want) {
        for (int student = 0; student < 4; student++) {
            due(what + ", owed by " + student, x.owed(student), want[student]);
        }
    }

    /** How a term begins: what is owed is the only charge, a credit is paid. */
    private static void begun(String what, Bill x, int... want) {
        balances(what, x, want);
        for (int student = 0; student < 4; student++) {
            int owed = want[student];
            due(what + ", fees of " + student, x.charged(student, FEES), owed > 0 ? owed : 0);
            due(what + ", paid by " + student, x.paid(student), owed < 0 ? -owed : 0);
            due(what + ", tuition of " + student, x.charged(student, TUITION), 0);
            due(what + ", housing of " + student, x.charged(student, HOUSING), 0);
        }
    }

    /** "A term has the weeks 0 to 15"; "When the week 15 ends, the week 0 of the next term begins." */
    private static void weeksAndTerms() {
        about("weeks and terms");
        Bill x = new Bill();
        due("week", x.week(), 0);
        due("term", x.term(), 0);
        for (int term = 0; term < 10; term++) {
            for (int week = 1; week < 16; week++) {
                due("week then", x.closeWeek(), week);
                due("week", x.week(), week);
                due("term", x.term(), term);
            }
            if (term < 9) {
                due("week then", x.closeWeek(), 0);
                due("week", x.week(), 0);
                due("term", x.term(), term + 1);
            }
        }
    }

    /** "if it is the week 15 of the term 9". */
    private static void lastWeekOfTheLastTerm() {
        about("the last week");
        Bill x = new Bill();
        x.close(143);
        due("the week 15 of the term 8 ends", x.closeWeek(), 0);
        due("term", x.term(), 9);
        x.close(14);
        due("the week 14 of the term 9 ends", x.closeWeek(), 15);
        balance(x, 0, 50);
        balance(x, 1, -50);
        x.take(2, 3);
        x.award(2, TermBill.LOAN, 4);
        for (int i = 0; i < 3; i++) {
            fails("the week 15 of the term 9", STATE, x, b -> b.closeWeek());
        }
        due("week", x.week(), 15);
        due("term", x.term(), 9);
        balances("nothing is carried", x, 50, -50, 29996, 0);
        due("credits", x.credits(2), 3);
    }

    /** Only closeWeek is refused then. */
    private static void theLastWeekGoesOn() {
        about("calls in the last week");
        Bill x = new Bill();
        x.close(159);
        due("take", x.take(3, 10), 0);
        due("take", x.take(3, 1), 1);
        due("drop", x.drop(3, 1), 10000);
        due("charge", x.charge(3, FEES, 5), 5);
        due("award", x.award(3, TermBill.LOAN, 100000), 0);
        due("plan", x.plan(3, 4), 2502);
        due("pay", x.pay(3, 10), 9995);
        due("leave", x.leave(3), 0);
        due("owed", x.owed(3), 9995);
        due("share", x.setShare(15, 0), 100);
    }

    /** Nothing owed, nothing paid: all terms end without a trace. */
    private static void emptyTerms() {
        about("empty terms");
        Bill x = new Bill();
        for (int term = 1; term < 10; term++) {
            x.close(16);
            begun("term " + term, x, ZEROS);
        }
    }

    private static void carrying(int one, int other, int oneThen, int otherThen) {
        String what = one + " and " + other;
        for (int first = 0; first < 4; first += 2) {
            for (int turned = 0; turned < 2; turned++) {
                Bill x = new Bill();
                int a = first + turned;
                int b = first + 1 - turned;
                balance(x, a, one);
                balance(x, b, other);
                x.close(15);
                due(what + ", ahead", x.owed(a), one);
                due(what + ", ahead", x.owed(b), other);
                x.close(1);
                int[] want = new int[4];
                want[a] = oneThen;
                want[b] = otherThen;
                begun(what, x, want);
            }
        }
    }

    /** "if one student owes something, and the other has a credit, the lesser of both is carried". */
    private static void carryingOfAFamily() {
        about("carrying");
        carrying(0, 0, 0, 0);
        carrying(1, 0, 1, 0);
        carrying(-1, 0, -1, 0);
        carrying(1, 1, 1, 1);
        carrying(-1, -1, -1, -1);
        carrying(1, -1, 0, 0);
        carrying(2, -1, 1, 0);
        carrying(1, -2, 0, -1);
        carrying(100, -99, 1, 0);
        carrying(99, -100, 0, -1);
        carrying(100, -100, 0, 0);
        carrying(1000000, -1, 999999, 0);
        carrying(1, -1000000, 0, -999999);
        carrying(1000000, -1000000, 0, 0);
        carrying(70, 30, 70, 30);
        carrying(-70, -30, -70, -30);
    }

    /** "0 and 1 are a family, 2 and 3 as well": nothing is carried between others. */
    private static void familiesAreTwo() {
        about("families");
        int[][] strangers = {{0, 2}, {0, 3}, {1, 2}, {1, 3}, {2, 0}, {3, 0}, {2, 1}, {3, 1}};
        for (int[] pair : strangers) {
            Bill x = new Bill();
            int[] want = new int[4];
            want[pair[0]] = 80;
            want[pair[1]] = -90;
            balance(x, pair[0], 80);
            balance(x, pair[1], -90);
            x.close(16);
            begun(pair[0] + " and " + pair[1], x, want);
        }
    }

    private static void bothFamiliesAtOnce() {
        about("both families");
        int[][] ahead = {{10, -4, -7, 9}, {-10, 4, 7, -9}, {5, -5, -6, 6}, {10, 4, -7, -9}, {10, -20, 30, -5}};
        int[][] behind = {{6, 0, 0, 2}, {-6, 0, 0, -2}, {0, 0, 0, 0}, {10, 4, -7, -9}, {0, -10, 25, 0}};
        for (int i = 0; i < ahead.length; i++) {
            Bill x = new Bill();
            for (int student = 0; student < 4; student++) {
                balance(x, student, ahead[i][student]);
            }
            x.close(16);
            begun("case " + i, x, behind[i]);
        }
    }

    /** "When the week 15 ends": not when any other week does. */
    private static void carryingAtTheEndAlone() {
        about("carrying at the end alone");
        Bill x = new Bill();
        balance(x, 0, 60);
        balance(x, 1, -40);
        for (int week = 1; week < 16; week++) {
            x.closeWeek();
            balances("week " + week, x, 60, -40, 0, 0);
            due("housing", x.charged(0, HOUSING), 60);
        }
        x.closeWeek();
        begun("the next term", x, 20, 0, 0, 0);
        x.closeWeek();
        begun("a week behind", x, 20, 0, 0, 0);
    }

    private static void carryingAtEachEnd() {
        about("carrying at each end");
        Bill x = new Bill();
        balance(x, 2, -1000);
        int[] credits = {-850, -700, -550, -400, -250, -100, 0, 0, 0};
        int[] owed = {0, 0, 0, 0, 0, 0, 50, 200, 350};
        for (int i = 0; i < 9; i++) {
            balance(x, 3, 150);
            x.close(16);
            begun("term " + (i + 1), x, 0, 0, credits[i], owed[i]);
        }
    }

    /** "charges are .. made by .. carrying": sums of many calls. */
    private static void carryingOfTheMost() {
        about("carrying of the most");
        Bill x = new Bill();
        for (int i = 0; i < 120; i++) {
            x.charge(1, HOUSING, 1000000);
            x.pay(0, 1000000);
            x.charge(2, FEES, 1000000);
        }
        x.pay(3, 1);
        x.charge(0, FEES, 2);
        x.close(16);
        begun("120 million", x, 0, 2, 119999999, 0);
    }

    /** What is owed then stands behind sponsor, aid and payments of the term. */
    private static void carriedIsWhatItOwes() {
        about("what it owes then");
        Bill x = new Bill();
        x.setStudent(0, 0, true, 25);
        x.charge(0, HOUSING, 500);
        x.charge(0, FEES, 60);
        x.take(0, 1);
        x.setSponsor(0, 4, 400);
        x.award(0, TermBill.GRANT, 1000);
        x.award(0, TermBill.WORK, 35);
        x.pay(0, 5000);
        balance(x, 1, -100);
        int owed = 560 + 10000 - 400 - 25 - 35 - 5000;
        due("owed", x.owed(0), owed);
        x.close(16);
        begun("less what was carried", x, owed - 100, 0, 0, 0);
    }

    /** "Then each student begins the term without courses": taken, dropped and kept ones. */
    private static void coursesOfANewTerm() {
        about("courses of a new term");
        Bill x = new Bill();
        for (int student = 0; student < 4; student++) {
            x.takeAll(student, 1, 2, 3, 4, 5, 6, 7, 8);
        }
        x.close(3);
        for (int student = 0; student < 4; student++) {
            x.drop(student, 7);
            x.drop(student, student);
        }
        int[] owed = {300000, 300000, 300000, 300000};
        balances("ahead", x, owed);
        x.close(13);
        begun("behind", x, owed);
        for (int student = 0; student < 4; student++) {
            due("credits", x.credits(student), 0);
            for (int course = 0; course < 8; course++) {
                int one = student;
                int gone = course;
                fails("course " + course, INDEX, x, b -> b.drop(one, gone));
            }
            due("number", x.take(student, 10), 0);
            due("credits", x.credits(student), 10);
            due("tuition", x.charged(student, TUITION), 100000);
            due("kept", x.drop(student, 0), 0);
        }
        begun("all dropped", x, owed);
    }

    /** "without courses, awards and sponsor". */
    private static void awardsOfANewTerm() {
        about("awards of a new term");
        Bill x = new Bill();
        for (int student = 0; student < 4; student++) {
            for (int award = 0; award < 6; award++) {
                x.award(student, TermBill.WORK, 10);
            }
            x.charge(student, HOUSING, 100);
        }
        balances("ahead", x, 40, 40, 40, 40);
        x.close(16);
        begun("behind", x, 40, 40, 40, 40);
        for (int i = 0; i < 4; i++) {
            int student = i;
            for (int j = 0; j < 6; j++) {
                int award = j;
                fails("award " + award, INDEX, x, b -> b.used(student, award));
                fails("award " + award, INDEX, x, b -> b.amountOf(student, award));
            }
            due("number", x.award(student, TermBill.LOAN, 7), 0);
            due("amount", x.amountOf(student, 0), 7);
            due("used", x.used(student, 0), 7);
            due("owed", x.owed(student), 33);
            due("given back, of this term's alone", x.leave(student), 7);
        }
    }

    private static void sponsorOfANewTerm() {
        about("a sponsor and a new term");
        Bill x = new Bill();
        for (int student = 0; student < 4; student++) {
            x.charge(student, FEES, 100);
            x.setSponsor(student, 7, 60);
        }
        x.close(15);
        due("the last week", x.sponsored(0), 60);
        x.close(1);
        for (int student = 0; student < 4; student++) {
            due("sponsored", x.sponsored(student), 0);
            due("owed", x.owed(student), 40);
            x.charge(student, HOUSING, 5);
            x.take(student, 1);
            due("nor of later charges", x.sponsored(student), 0);
            x.setSponsor(student, 2, 1000000);
            due("a sponsor of this term", x.sponsored(student), 40);
        }
    }

    /** "what it owes is its only charge, of the kind FEES". */
    private static void onlyChargeOfANewTerm() {
        about("the only charge");
        for (int kind = FEES; kind <= HOUSING; kind++) {
            Bill x = new Bill();
            x.charge(2, kind, 70);
            x.pay(2, 69);
            x.close(16);
            begun("1 of the kind " + kind, x, 0, 0, 1, 0);
            due("added to it", x.charge(2, FEES, 4), 5);
            due("beside it", x.charge(2, HOUSING, 4), 4);
            x.close(16);
            begun("all of it", x, 0, 0, 9, 0);
        }
        Bill x = new Bill();
        x.take(1, 1);
        x.close(16);
        begun("tuition", x, 0, 10000, 0, 0);
    }

    /** "a credit is paid already"; "a credit of the term before counts as paid at its beginning". */
    private static void creditOfANewTerm() {
        about("a credit");
        Bill x = new Bill();
        x.charge(0, FEES, 30);
        x.pay(0, 31);
        x.pay(3, 1000000);
        x.close(16);
        begun("1 and the most", x, -1, 0, 0, -1000000);
        due("paid besides", x.pay(0, 5), -6);
        due("paid", x.paid(0), 6);
        x.charge(0, HOUSING, 6);
        due("owed", x.owed(0), 0);
        x.charge(3, FEES, 1);
        x.close(16);
        begun("none and one less", x, 0, 0, 0, -999999);
    }

    /** "Levels, residence and needs stay", as do rates, band, table, late fee and limit. */
    private static void whatStays() {
        about("what stays");
        Bill x = new Bill();
        x.setRate(0, true, 2);
        x.setRate(0, false, 3);
        x.setRate(1, true, 5);
        x.setRate(1, false, 7);
        x.setBand(4, 6);
        x.setShare(0, 50);
        x.setFees(9, 20);
        for (int student = 0; student < 4; student++) {
            x.setStudent(student, student / 2, student % 2 == 0, 10 + student);
        }
        x.close(16);
        int[] rates = {2, 3, 5, 7};
        for (int student = 0; student < 4; student++) {
            x.takeAll(student, 4, 3);
            due("tuition", x.charged(student, TUITION), 5 * rates[student]);
            due("kept", x.drop(student, 1), rates[student] / 2);
            x.charge(student, FEES, 100);
            x.award(student, TermBill.GRANT, 200);
            due("need", x.used(student, 0), 10 + student);
            x.pay(student, x.owed(student) - 20);
            due("limit", x.hasHold(student), false);
            x.plan(student, 1);
        }
        x.close(2);
        for (int student = 0; student < 4; student++) {
            due("late fee", x.charged(student, FEES), 109);
            due("hold", x.hasHold(student), true);
        }
        due("rate", x.setRate(1, false, 0), 7);
        due("share", x.setShare(0, 0), 50);
        due("share", x.setShare(1, 0), 0);
        due("share", x.setShare(2, 0), 100);
    }

    private static void holdsAcrossTerms() {
        about("holds");
        Bill x = new Bill();
        x.setFees(0, 50);
        balance(x, 0, 51);
        balance(x, 2, 50);
        balance(x, 3, -1);
        x.close(16);
        due("more than the limit", x.hasHold(0), true);
        due("no more than it, behind carrying", x.hasHold(2), false);
        due("nothing", x.hasHold(1), false);
        balance(x, 2, 1);
        due("the limit", x.hasHold(2), false);
        balance(x, 2, 1);
        due("one more", x.hasHold(2), true);
    }

    private static void balancesAcrossAllTerms() {
        about("balances across all terms");
        Bill x = new Bill();
        balance(x, 0, 11);
        balance(x, 1, 12);
        balance(x, 2, -13);
        for (int term = 1; term < 10; term++) {
            x.close(16);
            begun("term " + term, x, 11, 12, -13, 0);
        }
        x.close(15);
        begun("the last week", x, 11, 12, -13, 0);
        fails("no term behind", STATE, x, b -> b.closeWeek());
    }

    /** "Charges are sponsored, aided, paid or owed, each once." */
    private static void eachCentOnce() {
        about("each cent once");
        for (int sum : new int[] {1, 49, 50, 51, 89, 90, 91, 100, 101}) {
            Bill x = new Bill();
            x.setStudent(0, 0, true, 20);
            x.charge(0, FEES, sum);
            x.setSponsor(0, 7, 50);
            x.award(0, TermBill.LOAN, 30);
            x.award(0, TermBill.GRANT, 10);
            x.pay(0, 10);
            int sponsored = Math.min(sum, 50);
            int granted = Math.min(sum - sponsored, 10);
            int lent = Math.min(sum - sponsored - granted, 30);
            due("sponsored of " + sum, x.sponsored(0), sponsored);
            due("granted of " + sum, x.used(0, 1), granted);
            due("lent of " + sum, x.used(0, 0), lent);
            due("paid", x.paid(0), 10);
            due("owed of " + sum, x.owed(0), sum - sponsored - granted - lent - 10);
        }
    }

    /** "An object is used for at most 512 calls": the last one is answered like any other. */
    private static void lastCallOfCharges() {
        about("the last call, charges");
        Bill x = new Bill();
        for (int i = 1; i <= 511; i++) {
            due("fees", x.charge(0, FEES, 1000000), i * 1000000);
        }
        due("owed", x.owed(0), 511000000);
        due("calls", x.calls(), Bill.MOST_CALLS);
        Bill y = new Bill();
        for (int i = 1; i <= 512; i++) {
            due("housing", y.charge(3, HOUSING, 1000000), i * 1000000);
        }
        due("calls", y.calls(), Bill.MOST_CALLS);
    }

    private static void lastCallOfPayments() {
        about("the last call, payments");
        Bill x = new Bill();
        for (int i = 1; i <= 512; i++) {
            due("owes then", x.pay(2, 1000000), -i * 1000000);
        }
        due("calls", x.calls(), Bill.MOST_CALLS);
        Bill y = new Bill();
        for (int i = 0; i < 248; i++) {
            y.pay(2, 1000000);
            y.charge(3, FEES, 1000000);
        }
        y.close(15);
        due("the week 0", y.closeWeek(), 0);
        due("calls", y.calls(), Bill.MOST_CALLS);
    }

    /** All weeks of all terms, with the most late fees. */
    private static void lastCallOfWeeks() {
        about("the last call, weeks");
        Bill x = new Bill();
        x.setFees(100000, 1000000);
        int fees = 0;
        int calls = 1;
        for (int student = 0; student < 4; student++) {
            x.charge(student, HOUSING, 1000000);
            calls++;
        }
        for (int week = 0; week < 152; week++) {
            if (week % 8 == 0) {
                for (int student = 0; student < 4; student++) {
                    due("in 4", x.plan(student, 4), (1000000 + fees) / 4);
                    calls++;
                }
            }
            due("week", x.closeWeek(), (week + 1) % 16);
            calls++;
            fees += week % 2 == 1 ? 100000 : 0;
        }
        balances("behind " + calls + " calls", x, 8600000, 8600000, 8600000, 8600000);
        due("fees", fees, 7600000);
        due("calls", x.calls(), calls + 4);
    }

    private static void lastCallRefused() {
        about("the last call, refused");
        Bill x = new Bill();
        for (int i = 0; i < 511; i++) {
            due("refused", Probe.answer(() -> x.pay(4, 1)), "IndexOutOfBoundsException");
        }
        due("refused", Probe.answer(() -> x.plan(0, 1)), "IllegalStateException");
        due("calls", x.calls(), Bill.MOST_CALLS);
        Bill y = new Bill();
        for (int i = 0; i < 511; i++) {
            due("refused", Probe.answer(() -> y.take(0, 11)), "IllegalArgumentException");
        }
        due("taken", y.take(0, 10), 0);
        due("calls", y.calls(), Bill.MOST_CALLS);
    }

    /** The most charges of one student in a term: 8 courses, all charges by calls. */
    private static void lastCallsOfOneStudent() {
        about("the last call, one student");
        Bill x = new Bill();
        x.setRate(0, true, 100000);
        x.setBand(30, 30);
        x.takeAll(0, 10, 10, 10, 10, 10, 10, 10, 10);
        x.close(9);
        for (int award = 0; award < 6; award++) {
            x.award(0, award % 3, 1000000);
        }
        x.setStudent(0, 0, true, 1000000);
        x.setSponsor(0, 7, 1000000);
        for (int i = 0; i < 479; i++) {
            x.charge(0, i % 2 == 0 ? FEES : HOUSING, 1000000);
        }
        due("owed", x.owed(0), 481000000);
        due("given back", x.leave(0), 2625000);
        due("owed", x.owed(0), 483625000);
        due("kept", x.charged(0, TUITION), 8000000);
        due("hold", x.hasHold(0), true);
        due("first instalment", x.plan(0, 4), 120906250);
        due("calls", x.calls(), Bill.MOST_CALLS);
    }

    /** What is done to one object is nothing to another. */
    private static void objectsAreApart() {
        about("two objects");
        Bill x = new Bill();
        Bill y = new Bill();
        x.setRate(0, true, 1);
        x.setBand(1, 30);
        x.setShare(0, 100);
        x.setFees(1, 1);
        x.take(0, 9);
        x.award(0, TermBill.LOAN, 5);
        x.close(20);
        String seen = Probe.all(() -> y.twin()).toString();
        due("the other one", seen, Probe.all(() -> new Bill()).toString());
        due("week", y.week(), 0);
        due("rate", y.setRate(0, true, 5), 10000);
    }
}
