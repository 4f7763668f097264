/** Who covers charges, at the edges: sponsors, awards by ranks and needs, payments, credits, holds, and leaving. */
public final class EdgesOfCoverTest extends Check {
    private static final int TUITION = TermBill.TUITION, FEES = TermBill.FEES, HOUSING = TermBill.HOUSING;
    private static final int GRANT = TermBill.GRANT, WORK = TermBill.WORK, LOAN = TermBill.LOAN;

    public static void main(String[] args) {
        nothingAtAll();
        chargesAreAddedUp();
        noSponsor();
        limitOfSponsors();
        kindsOfSponsors();
        sponsorInPlaceOfAnother();
        noAward();
        awardAndWhatIsLeft();
        awardsFallShortOfCharges();
        ranks();
        numbersWithinARank();
        needOfGrants();
        needWithinGrants();
        grantsAsFarAsSomethingIsLeft();
        needAsItIsNow();
        allAwards();
        sponsorAheadOfAid();
        paymentsLeaveAidAlone();
        owedAndCredit();
        limitOfHolds();
        paidInATerm();
        nothingToLeave();
        backByWeeks();
        backIsRoundedDown();
        backInALaterTerm();
        takenOffByRanks();
        takenOffByNumbers();
        awardsBehindLeaving();
        leavingDropsByNumbers();
        leavingLeavesTheRest();
        end("EdgesOfCoverTest");
    }

    /** A student owes so much housing. */
    private static Bill owing(int student, int amount) {
        Bill x = new Bill();
        if (amount > 0) {
            x.charge(student, HOUSING, amount);
        }
        return x;
    }

    private static void uses(String what, Bill x, int student, int... want) {
        for (int award = 0; award < want.length; award++) {
            due(what + ", used of " + award, x.used(student, award), want[award]);
        }
        int behind = want.length;
        due(what + ", no award behind", Probe.answer(() -> x.used(student, behind)), "IndexOutOfBoundsException");
    }

    private static void amounts(String what, Bill x, int student, int... want) {
        for (int award = 0; award < want.length; award++) {
            due(what + ", amount of " + award, x.amountOf(student, award), want[award]);
        }
        int behind = want.length;
        due(what + ", no award behind", Probe.answer(() -> x.amountOf(student, behind)), "IndexOutOfBoundsException");
    }

    /** "the need 0 and nothing else". */
    private static void nothingAtAll() {
        about("a new object");
        Bill x = new Bill();
        for (int student = 0; student < 4; student++) {
            due("credits", x.credits(student), 0);
            due("tuition", x.charged(student, TUITION), 0);
            due("fees", x.charged(student, FEES), 0);
            due("housing", x.charged(student, HOUSING), 0);
            due("sponsored", x.sponsored(student), 0);
            due("paid", x.paid(student), 0);
            due("owed", x.owed(student), 0);
            due("hold", x.hasHold(student), false);
            uses("none", x, student);
            amounts("none", x, student);
            x.award(student, GRANT, 1);
            x.charge(student, FEES, 1);
            uses("the need 0", x, student, 0);
            due("the limit 0", x.hasHold(student), true);
        }
    }

    /** "charges of the last two are made by calls, late fees and carrying, and added up". */
    private static void chargesAreAddedUp() {
        about("charges added up");
        Bill x = new Bill();
        for (int i = 1; i <= 20; i++) {
            due("fees", x.charge(0, FEES, 1000000), i * 1000000);
            due("housing", x.charge(0, HOUSING, 1), i);
        }
        due("fees", x.charged(0, FEES), 20000000);
        due("housing", x.charged(0, HOUSING), 20);
        due("no tuition", x.charged(0, TUITION), 0);
        due("owed", x.owed(0), 20000020);
        due("another one's", x.charge(1, FEES, 1), 1);
        due("another one's housing", x.charged(1, HOUSING), 0);
    }

    /** "A student can have a sponsor": none as long as none is set. */
    private static void noSponsor() {
        about("no sponsor");
        Bill x = owing(1, 1000000);
        x.take(1, 10);
        x.charge(1, FEES, 5);
        due("sponsored", x.sponsored(1), 0);
        x.setSponsor(0, 7, 1000000);
        due("another one's sponsor", x.sponsored(1), 0);
        due("no charges to sponsor", x.sponsored(0), 0);
        due("owed", x.owed(0), 0);
    }

    /** "sponsored is the sum of its charges of these kinds, but at most the limit". */
    private static void limitOfSponsors() {
        about("a sponsor's limit");
        int[][] cases = {{0, 0}, {1, 1}, {99, 99}, {100, 100}, {101, 100}, {1000000, 100}};
        for (int[] each : cases) {
            Bill x = owing(2, 60);
            x.charge(2, FEES, 40);
            x.setSponsor(2, 6, each[0]);
            due("sponsored up to " + each[0], x.sponsored(2), each[1]);
            due("owed", x.owed(2), 100 - each[1]);
        }
        Bill x = owing(2, 999999);
        x.setSponsor(2, 4, 1000000);
        due("one below the most", x.sponsored(2), 999999);
        x.charge(2, HOUSING, 1);
        due("at the most", x.sponsored(2), 1000000);
        x.charge(2, HOUSING, 1);
        due("one above the most", x.sponsored(2), 1000000);
        due("owed", x.owed(2), 1);
    }

    /** "a set: 0 to 7, the bit k for the kind k". */
    private static void kindsOfSponsors() {
        about("kinds of a sponsor");
        Bill x = new Bill();
        x.setRate(0, true, 100);
        x.takeAll(3, 1, 2);
        x.setShare(0, 50);
        x.drop(3, 1);
        x.charge(3, FEES, 10);
        x.charge(3, HOUSING, 1);
        int[] sponsored = {0, 200, 10, 210, 1, 201, 11, 211};
        for (int kinds = 0; kinds <= 7; kinds++) {
            x.setSponsor(3, kinds, 1000000);
            due("kinds " + kinds + ", what was kept counted", x.sponsored(3), sponsored[kinds]);
            due("owed", x.owed(3), 211 - sponsored[kinds]);
            x.setSponsor(3, kinds, 1);
            due("kinds " + kinds + " up to 1", x.sponsored(3), kinds == 0 ? 0 : 1);
        }
    }

    /** "Sets the sponsor of a student, in place of one that there may be." */
    private static void sponsorInPlaceOfAnother() {
        about("a sponsor in place of another");
        Bill x = owing(0, 100);
        x.charge(0, FEES, 30);
        x.setSponsor(0, 4, 70);
        due("the first one", x.sponsored(0), 70);
        x.setSponsor(0, 2, 1000000);
        due("the second one", x.sponsored(0), 30);
        x.setSponsor(0, 6, 0);
        due("up to nothing", x.sponsored(0), 0);
        x.setSponsor(0, 0, 1000000);
        due("of no kind", x.sponsored(0), 0);
        due("owed", x.owed(0), 130);
    }

    /** "Then aid covers what is left": nothing without awards. */
    private static void noAward() {
        about("no award");
        Bill x = owing(0, 100);
        x.setStudent(0, 0, true, 1000000);
        due("owed", x.owed(0), 100);
        uses("none", x, 0);
        x.award(1, WORK, 100);
        uses("another one's", x, 0);
        due("owed", x.owed(0), 100);
        uses("nothing charged", x, 1, 0);
        due("owed", x.owed(1), 0);
    }

    /** "each one is used as far as something is left". */
    private static void awardAndWhatIsLeft() {
        for (int rank = GRANT; rank <= LOAN; rank++) {
            about("an award of the rank " + rank);
            int[][] cases = {{0, 0}, {1, 1}, {99, 99}, {100, 100}, {101, 100}, {1000000, 100}};
            for (int[] each : cases) {
                Bill x = owing(1, each[0]);
                x.setStudent(1, 0, true, 1000000);
                due("number", x.award(1, rank, 100), 0);
                uses("of " + each[0], x, 1, each[1]);
                due("owed", x.owed(1), each[0] - each[1]);
                amounts("of " + each[0], x, 1, 100);
            }
        }
    }

    /** "amount: 1 to 1000000". */
    private static void awardsFallShortOfCharges() {
        about("the least and the most amount of an award");
        Bill x = owing(0, 1000000);
        x.charge(0, HOUSING, 2);
        x.award(0, LOAN, 1);
        uses("the least", x, 0, 1);
        x.award(0, WORK, 1000000);
        uses("the most", x, 0, 1, 1000000);
        due("owed", x.owed(0), 1);
        x.award(0, WORK, 1);
        uses("to the end", x, 0, 1, 1000000, 1);
        due("owed", x.owed(0), 0);
        x.award(0, WORK, 1);
        uses("work ahead of a loan", x, 0, 0, 1000000, 1, 1);
        due("owed", x.owed(0), 0);
    }

    /** "the awards are gone through by ranks, GRANT ahead of WORK ahead of LOAN". */
    private static void ranks() {
        about("ranks");
        int[][] orders = {{GRANT, WORK, LOAN}, {GRANT, LOAN, WORK}, {WORK, GRANT, LOAN},
            {WORK, LOAN, GRANT}, {LOAN, GRANT, WORK}, {LOAN, WORK, GRANT}};
        int[][] uses = {{0, 0, 0}, {9, 0, 0}, {10, 0, 0}, {10, 1, 0}, {10, 10, 0}, {10, 10, 1}, {10, 10, 10}, {10, 10, 10}};
        int[] charges = {0, 9, 10, 11, 20, 21, 30, 31};
        for (int[] order : orders) {
            for (int i = 0; i < charges.length; i++) {
                Bill x = owing(3, charges[i]);
                x.setStudent(3, 0, true, 10);
                for (int rank : order) {
                    x.award(3, rank, 10);
                }
                uses("charges " + charges[i], x, 3, uses[i][order[0]], uses[i][order[1]], uses[i][order[2]]);
                due("owed", x.owed(3), Math.max(0, charges[i] - 30));
            }
        }
    }

    /** "those of the same rank by rising numbers". */
    private static void numbersWithinARank() {
        for (int rank = GRANT; rank <= LOAN; rank++) {
            about("numbers within the rank " + rank);
            int[][] cases = {{0, 0, 0, 0}, {4, 4, 0, 0}, {5, 5, 0, 0}, {6, 5, 1, 0}, {8, 5, 3, 0}, {9, 5, 3, 1}, {15, 5, 3, 7}, {16, 5, 3, 7}};
            for (int[] each : cases) {
                Bill x = owing(0, each[0]);
                x.setStudent(0, 0, true, 1000);
                x.award(0, rank, 5);
                x.award(0, rank, 3);
                x.award(0, rank, 7);
                uses("charges " + each[0], x, 0, each[1], each[2], each[3]);
            }
        }
    }

    /** "grants together at most as far as the need of the student". */
    private static void needOfGrants() {
        about("grants and the need");
        int[][] cases = {{0, 0, 0}, {1, 1, 0}, {29, 29, 0}, {30, 30, 0}, {31, 30, 1}, {49, 30, 19}, {50, 30, 20}, {51, 30, 20},
            {1000000, 30, 20}};
        for (int[] each : cases) {
            Bill x = owing(2, 100);
            x.setStudent(2, 1, false, each[0]);
            x.award(2, GRANT, 30);
            x.award(2, WORK, 15);
            x.award(2, GRANT, 20);
            x.award(2, LOAN, 25);
            uses("need " + each[0], x, 2, each[1], 15, each[2], 25);
            due("owed", x.owed(2), 100 - 40 - each[1] - each[2]);
        }
        Bill x = owing(2, 1000000);
        x.charge(2, HOUSING, 1000000);
        x.setStudent(2, 0, true, 1000000);
        x.award(2, GRANT, 999999);
        x.award(2, GRANT, 999999);
        uses("the most need", x, 2, 999999, 1);
        due("owed", x.owed(2), 1000000);
    }

    /** The need is used up by grants alone, and what it leaves is for the ranks behind. */
    private static void needWithinGrants() {
        about("a need that ends within a grant");
        Bill x = owing(0, 50);
        x.setStudent(0, 0, true, 10);
        x.award(0, LOAN, 40);
        x.award(0, GRANT, 40);
        x.award(0, WORK, 30);
        uses("work and loan have no need", x, 0, 10, 10, 30);
        due("owed", x.owed(0), 0);
        x.award(0, GRANT, 1);
        uses("the need is used up", x, 0, 10, 10, 30, 0);
    }

    /** "as far as something is left" also holds for grants below the need. */
    private static void grantsAsFarAsSomethingIsLeft() {
        about("grants and what is left");
        for (int charges : new int[] {0, 1, 39, 40, 41}) {
            Bill x = owing(0, charges);
            x.setStudent(0, 0, true, 40);
            x.award(0, GRANT, 100);
            x.award(0, GRANT, 100);
            x.award(0, WORK, 100);
            uses("charges " + charges, x, 0, Math.min(charges, 40), 0, charges > 40 ? charges - 40 : 0);
            due("owed", x.owed(0), 0);
        }
    }

    private static void needAsItIsNow() {
        about("the need as it is now");
        Bill x = owing(0, 100);
        x.award(0, GRANT, 50);
        uses("need 0", x, 0, 0);
        x.setStudent(0, 0, true, 20);
        uses("need 20", x, 0, 20);
        x.setStudent(1, 0, true, 50);
        uses("another one's", x, 0, 20);
        x.setStudent(0, 0, true, 0);
        uses("need 0 again", x, 0, 0);
        due("owed", x.owed(0), 100);
    }

    /** "if it has 6 awards in the term". */
    private static void allAwards() {
        about("all awards of a term");
        Bill x = new Bill();
        for (int i = 0; i < 6; i++) {
            due("number", x.award(1, i % 3, 1000000), i);
            x.charge(1, FEES, 1000000);
        }
        x.setStudent(1, 0, true, 1000000);
        uses("all", x, 1, 1000000, 1000000, 1000000, 0, 1000000, 1000000);
        due("owed", x.owed(1), 1000000);
        fails("a seventh", STATE, x, b -> b.award(1, LOAN, 1));
        fails("no seventh to look at", INDEX, x, b -> b.used(1, 6));
        fails("no seventh to look at", INDEX, x, b -> b.amountOf(1, 6));
        due("another one's first", x.award(0, LOAN, 1), 0);
        x.close(16);
        for (int i = 0; i < 6; i++) {
            due("number in a new term", x.award(1, LOAN, 1), i);
        }
        fails("a seventh in a new term", STATE, x, b -> b.award(1, LOAN, 1));
    }

    /** "Then aid covers what is left of all charges": behind the sponsor. */
    private static void sponsorAheadOfAid() {
        about("aid behind a sponsor");
        int[][] cases = {{0, 50, 20}, {29, 50, 20}, {30, 50, 20}, {31, 49, 20}, {79, 1, 20}, {80, 0, 20}, {81, 0, 19}, {99, 0, 1},
            {100, 0, 0}, {101, 0, 0}};
        for (int[] each : cases) {
            Bill x = owing(3, 100);
            x.award(3, LOAN, 50);
            x.award(3, WORK, 20);
            x.setSponsor(3, 4, each[0]);
            uses("sponsored up to " + each[0], x, 3, each[1], each[2]);
            due("owed", x.owed(3), 100 - Math.min(100, each[0]) - each[1] - each[2]);
        }
        for (int kind = FEES; kind <= HOUSING; kind++) {
            Bill x = new Bill();
            x.charge(3, kind, 10);
            x.award(3, LOAN, 10);
            uses("kind " + kind, x, 3, 10);
        }
        Bill x = new Bill();
        x.take(3, 1);
        x.award(3, LOAN, 10000);
        uses("tuition", x, 3, 10000);
        due("owed", x.owed(3), 0);
    }

    /** Aid covers charges: what was paid takes nothing from it. */
    private static void paymentsLeaveAidAlone() {
        about("aid and payments");
        Bill x = owing(0, 100);
        x.award(0, WORK, 60);
        due("owes then", x.pay(0, 40), 0);
        uses("paid the rest", x, 0, 60);
        due("owes then", x.pay(0, 60), -60);
        uses("paid all", x, 0, 60);
        due("owes then", x.pay(0, 1000000), -1000060);
        uses("paid more", x, 0, 60);
        x.setSponsor(0, 4, 100);
        uses("sponsored as well", x, 0, 0);
        due("owed", x.owed(0), -1000100);
    }

    /** "below 0 it is a credit". */
    private static void owedAndCredit() {
        about("owed and credit");
        Bill x = owing(2, 10);
        due("owes then", x.pay(2, 9), 1);
        due("owed", x.owed(2), 1);
        due("owes then", x.pay(2, 1), 0);
        due("owed", x.owed(2), 0);
        due("owes then", x.pay(2, 1), -1);
        due("owed", x.owed(2), -1);
        due("the most", x.pay(2, 1000000), -1000001);
        due("nothing charged", x.pay(3, 1), -1);
        due("all its charges", x.charge(3, FEES, 1), 1);
        due("owed", x.owed(3), 0);
    }

    /** "it owes more than the limit". */
    private static void limitOfHolds() {
        about("holds");
        for (int limit : new int[] {0, 1, 77, 999999, 1000000}) {
            Bill x = new Bill();
            x.setFees(5, limit);
            due("nothing owed", x.hasHold(1), false);
            if (limit > 0) {
                x.charge(1, FEES, limit);
            }
            due("owes the limit " + limit, x.hasHold(1), false);
            x.charge(1, FEES, 1);
            due("owes one more than " + limit, x.hasHold(1), true);
            x.pay(1, 1);
            due("owes the limit again", x.hasHold(1), false);
            x.pay(1, limit + 1 > 1000000 ? 1000000 : limit + 1);
            due("owes less", x.hasHold(1), false);
        }
        Bill x = owing(0, 50);
        due("the limit 0", x.hasHold(0), true);
        x.setFees(5, 50);
        due("the limit 50", x.hasHold(0), false);
        x.setFees(5, 49);
        due("the limit 49", x.hasHold(0), true);
        x.award(0, LOAN, 1);
        due("aid counts", x.hasHold(0), false);
        due("another one", x.hasHold(1), false);
    }

    /** "amount: 1 to 1000000"; "Returns what a student has paid in this term". */
    private static void paidInATerm() {
        about("paid");
        Bill x = new Bill();
        due("nothing paid", x.paid(1), 0);
        x.pay(1, 1);
        due("the least", x.paid(1), 1);
        x.pay(1, 1000000);
        due("the most", x.paid(1), 1000001);
        due("another one", x.paid(0), 0);
        x.charge(1, FEES, 1000000);
        x.close(15);
        due("the last week", x.paid(1), 1000001);
        x.close(1);
        due("the credit of the term before", x.paid(1), 1);
        x.charge(1, FEES, 1);
        x.close(16);
        due("no credit", x.paid(1), 0);
        x.charge(1, FEES, 5);
        x.close(16);
        due("something owed", x.paid(1), 0);
        due("owed", x.owed(1), 5);
    }

    /** A student without courses and awards leaves. */
    private static void nothingToLeave() {
        about("nothing to leave");
        for (int week : new int[] {0, 9, 10, 15}) {
            Bill x = owing(2, 100);
            x.pay(2, 30);
            x.close(week);
            String before = Probe.look(x.twin());
            due("given back", x.leave(2), 0);
            due("all that is seen", Probe.look(x.twin()), before);
            due("given back again", x.leave(2), 0);
        }
    }

    /** "nothing if w is 10 or more, otherwise s less (s times w, divided by 16, rounded down)". */
    private static void backByWeeks() {
        about("aid given back, by weeks");
        int[] back = {160, 150, 140, 130, 120, 110, 100, 90, 80, 70, 0, 0, 0, 0, 0, 0};
        for (int week = 0; week < 16; week++) {
            Bill x = new Bill();
            x.award(0, LOAN, 160);
            x.take(0, 1);
            x.close(week);
            due("week " + week, x.leave(0), back[week]);
            amounts("week " + week, x, 0, 160 - back[week]);
            due("credits", x.credits(0), 0);
        }
    }

    private static void back(int week, int amount, int want) {
        Bill x = new Bill();
        x.award(3, WORK, amount);
        x.close(week);
        due("of " + amount + " in the week " + week, x.leave(3), want);
        amounts("of " + amount + " in the week " + week, x, 3, amount - want);
    }

    /** "s times w, divided by 16, rounded down". */
    private static void backIsRoundedDown() {
        about("aid given back, rounded");
        back(0, 1, 1);
        back(1, 1, 1);
        back(9, 1, 1);
        back(10, 1, 0);
        back(1, 15, 15);
        back(1, 16, 15);
        back(1, 17, 16);
        back(1, 31, 30);
        back(1, 32, 30);
        back(9, 2, 1);
        back(9, 3, 2);
        back(9, 16, 7);
        back(8, 1, 1);
        back(8, 2, 1);
        back(5, 7, 5);
        back(9, 1000000, 437500);
        back(9, 999999, 437500);
        back(0, 1000000, 1000000);
        Bill x = new Bill();
        for (int i = 0; i < 6; i++) {
            x.award(0, i % 3, 1000000);
        }
        x.close(9);
        due("all awards, the most of each", x.leave(0), 2625000);
        amounts("all awards", x, 0, 1000000, 375000, 0, 1000000, 1000000, 0);
        fails("a seventh award", STATE, x, b -> b.award(0, GRANT, 1));
    }

    /** "with w for the week": the one of the term, not counted on from the first term. */
    private static void backInALaterTerm() {
        about("aid given back in a later term");
        Bill x = new Bill();
        x.close(16);
        x.award(0, LOAN, 160);
        due("week 0", x.leave(0), 160);
        x.award(1, LOAN, 160);
        x.close(9);
        due("week 9", x.leave(1), 70);
        x.close(1);
        x.award(2, LOAN, 160);
        due("week 10", x.leave(2), 0);
        x.close(118);
        due("term", x.term(), 9);
        due("week", x.week(), 0);
        x.award(3, LOAN, 160);
        due("the last term", x.leave(3), 160);
    }

    private static void takenOff(int loan, int work, int grant, int... left) {
        int[][] orders = {{GRANT, WORK, LOAN}, {LOAN, GRANT, WORK}, {WORK, LOAN, GRANT}};
        int[] amounts = {grant, work, loan};
        for (int[] order : orders) {
            Bill x = new Bill();
            for (int rank : order) {
                x.award(2, rank, amounts[rank]);
            }
            x.close(8);
            int sum = loan + work + grant;
            due("given back of " + sum, x.leave(2), sum - sum / 2);
            amounts("left of " + sum, x, 2, left[order[0]], left[order[1]], left[order[2]]);
        }
    }

    /** "taken off its awards, LOAN ahead of WORK ahead of GRANT, .. each as far as its amount goes". */
    private static void takenOffByRanks() {
        about("aid taken off by ranks");
        takenOff(30, 18, 10, 10, 18, 1);
        takenOff(30, 20, 10, 10, 20, 0);
        takenOff(30, 22, 10, 10, 21, 0);
        takenOff(30, 20, 48, 48, 1, 0);
        takenOff(30, 20, 50, 50, 0, 0);
        takenOff(30, 20, 52, 51, 0, 0);
        takenOff(1, 1, 1, 1, 0, 0);
    }

    /** "those of the same rank by rising numbers". */
    private static void takenOffByNumbers() {
        for (int rank = GRANT; rank <= LOAN; rank++) {
            about("aid taken off within the rank " + rank);
            int[][] cases = {{7, 3, 4}, {8, 3, 4}, {10, 3, 4}, {14, 3, 4}};
            int[][] left = {{0, 3, 4}, {0, 3, 4}, {1, 3, 4}, {3, 3, 4}};
            for (int i = 0; i < cases.length; i++) {
                Bill x = new Bill();
                for (int amount : cases[i]) {
                    x.award(1, rank, amount);
                }
                x.close(8);
                x.leave(1);
                amounts("first of " + cases[i][0], x, 1, left[i]);
            }
            Bill x = new Bill();
            x.award(1, rank, 3);
            x.award(1, rank, 1);
            x.award(1, rank, 6);
            x.close(8);
            due("given back", x.leave(1), 5);
            amounts("as far as its amount goes", x, 1, 0, 0, 5);
        }
    }

    /** "the amount, less what was given back"; leaving again gives back of what is left. */
    private static void awardsBehindLeaving() {
        about("awards behind leaving");
        Bill x = owing(0, 1000);
        x.setStudent(0, 0, true, 1000);
        x.award(0, GRANT, 64);
        x.award(0, LOAN, 64);
        x.close(8);
        uses("ahead", x, 0, 64, 64);
        due("owed", x.owed(0), 872);
        due("given back", x.leave(0), 64);
        amounts("behind", x, 0, 64, 0);
        uses("behind", x, 0, 64, 0);
        due("owed", x.owed(0), 936);
        due("given back again", x.leave(0), 32);
        amounts("behind", x, 0, 32, 0);
        due("a new award", x.award(0, LOAN, 10), 2);
        due("given back of both", x.leave(0), 21);
        amounts("behind", x, 0, 21, 0, 0);
        x.close(1);
        due("week 9", x.leave(0), 10);
        x.close(1);
        due("week 10", x.leave(0), 0);
        amounts("behind", x, 0, 11, 0, 0);
        Bill y = new Bill();
        y.award(0, LOAN, 5);
        due("all of it", y.leave(0), 5);
        amounts("nothing left", y, 0, 0);
        due("nothing left", y.leave(0), 0);
    }

    private static void leavingKeeps(String what, int want, int... courses) {
        Bill x = new Bill();
        x.setRate(0, true, 1);
        x.setBand(2, 4);
        x.setShare(0, 50);
        x.takeAll(0, courses);
        x.leave(0);
        due(what, x.charged(0, TUITION), want);
        due("credits", x.credits(0), 0);
    }

    /** "A student who leaves drops all its courses, by rising numbers". */
    private static void leavingDropsByNumbers() {
        about("leaving drops courses");
        leavingKeeps("half of 2 less 1, then half of 1", 0, 3, 1);
        leavingKeeps("half of 2 less 2, then half of 2", 1, 1, 3);
        leavingKeeps("half of 3 less 2, then of 2 less 2, then of 2", 1, 1, 1, 3);
        leavingKeeps("half of 3 less 2, then of 2 less 1, then of 1", 0, 1, 3, 1);
        leavingKeeps("half of 3 less 2, then of 2 less 1, then of 1", 0, 3, 1, 1);
        leavingWithAllCourses();
    }

    private static void leavingWithAllCourses() {
        Bill x = new Bill();
        x.setBand(30, 30);
        x.setRate(0, true, 1);
        x.takeAll(0, 10, 10, 10, 10, 10, 10, 10, 10);
        x.close(10);
        x.drop(0, 3);
        due("no award", x.leave(0), 0);
        due("all kept, once each", x.charged(0, TUITION), 80);
        due("credits", x.credits(0), 0);
        due("again", x.leave(0), 0);
        due("nothing is kept twice", x.charged(0, TUITION), 80);
        for (int course = 0; course < 8; course++) {
            int one = course;
            fails("dropped", STATE, x, b -> b.drop(0, one));
        }
        fails("a ninth course", STATE, x, b -> b.take(0, 1));
    }

    /** Leaving touches courses and awards of one student alone. */
    private static void leavingLeavesTheRest() {
        about("what leaving leaves");
        Bill x = new Bill();
        for (int student = 0; student < 4; student++) {
            x.setStudent(student, 0, true, 50);
            x.setSponsor(student, 2, 5);
            x.take(student, 2);
            x.award(student, GRANT, 40);
            x.charge(student, FEES, 20);
            x.charge(student, HOUSING, 30);
            x.pay(student, 7);
        }
        x.leave(1);
        for (int student = 0; student < 4; student++) {
            boolean isGone = student == 1;
            due("tuition", x.charged(student, TUITION), isGone ? 0 : 20000);
            due("fees", x.charged(student, FEES), 20);
            due("housing", x.charged(student, HOUSING), 30);
            due("sponsored", x.sponsored(student), 5);
            due("paid", x.paid(student), 7);
            amounts("student " + student, x, student, isGone ? 0 : 40);
            due("owed", x.owed(student), isGone ? 38 : 19998);
        }
        due("courses go on", x.take(1, 1), 1);
        due("awards go on", x.award(1, GRANT, 60), 1);
        uses("the need stays", x, 1, 0, 50);
    }
}
