/** At least one test for each promise of the document: ordinary inputs, edges and wrong inputs. */
public final class PromisesTest extends Check {
    public static void main(String[] args) {
        promise01NewObject();
        promise02SetRate();
        promise03SetBand();
        promise04SetShare();
        promise05SetFees();
        promise06SetStudent();
        promise07SetSponsor();
        promise08Take();
        promise09Drop();
        promise10Charge();
        promise11Award();
        promise12Pay();
        promise13Plan();
        promise13LateFees();
        promise13PlansInLaterTerms();
        promise14Leave();
        promise15CloseWeek();
        promise15Carrying();
        promise15NewTerm();
        promise16And17WeekAndTerm();
        promise18Credits();
        promise19Charged();
        promise20Sponsored();
        promise21Used();
        promise22AmountOf();
        promise23Paid();
        promise24Owed();
        promise25HasHold();
        constants();
        end("PromisesTest");
    }

    // ---- the promises

    private static void promise01NewObject() {
        about("promise 1");
        Bill x = new Bill();
        due("week", x.week(), 0);
        due("term", x.term(), 0);
        for (int s = 0; s < 4; s++) {
            int student = s;
            due("credits", x.credits(s), 0);
            for (int kind = 0; kind < 3; kind++) {
                due("charged", x.charged(s, kind), 0);
            }
            due("sponsored", x.sponsored(s), 0);
            due("paid", x.paid(s), 0);
            due("owed", x.owed(s), 0);
            due("hasHold", x.hasHold(s), false);
            fails("no award", INDEX, x, b -> b.used(student, 0));
            fails("no course", INDEX, x, b -> b.drop(student, 0));
        }
        for (int level = 0; level < 2; level++) {
            due("rate of residents", x.setRate(level, true, 7 + level), 10000);
            due("rate of others", x.setRate(level, false, 9 + level), 10000);
        }
        x.take(0, 1);
        due("level 0, resident", x.charged(0, TermBill.TUITION), 7);
        for (int week = 0; week < 16; week++) {
            due("share of week " + week, x.setShare(week, 50), week < 2 ? 0 : 100);
        }
        newObjectHasBandFeeNeedAndLimit();
    }

    private static void newObjectHasBandFeeNeedAndLimit() {
        Bill x = new Bill();
        x.take(1, 10);
        x.take(1, 1);
        due("11 credits", x.owed(1), 110000);
        x.take(1, 1);
        due("12 credits", x.owed(1), 120000);
        x.take(1, 6);
        due("18 credits", x.owed(1), 120000);
        x.take(1, 1);
        due("19 credits", x.owed(1), 130000);
        x.award(1, TermBill.GRANT, 5);
        due("need 0", x.used(1, 0), 0);
        x.charge(2, TermBill.FEES, 1);
        due("limit of holds 0", x.hasHold(2), true);
        x.plan(2, 1);
        x.close(2);
        due("late fee 2500", x.charged(2, TermBill.FEES), 2501);
    }

    private static void promise02SetRate() {
        about("promise 2");
        Bill x = new Bill();
        due("before", x.setRate(0, true, 0), 10000);
        due("before", x.setRate(0, true, 100000), 0);
        due("before", x.setRate(0, true, 3), 100000);
        x.setRate(0, false, 5);
        x.setRate(1, true, 7);
        x.setRate(1, false, 11);
        x.setStudent(1, 0, false, 0);
        x.setStudent(2, 1, true, 0);
        x.setStudent(3, 1, false, 0);
        int[] rates = {3, 5, 7, 11};
        for (int s = 0; s < 4; s++) {
            x.take(s, 2);
            due("tuition of " + s, x.charged(s, TermBill.TUITION), 2 * rates[s]);
        }
        x.setRate(1, false, 100000);
        due("rates as they are now", x.charged(3, TermBill.TUITION), 200000);
        fails("level -1", ARGUMENT, x, b -> b.setRate(-1, true, 1));
        fails("level 2", ARGUMENT, x, b -> b.setRate(2, true, 1));
        fails("rate -1", ARGUMENT, x, b -> b.setRate(0, true, -1));
        fails("rate 100001", ARGUMENT, x, b -> b.setRate(1, false, 100001));
        fails("rate and level", ARGUMENT, x, b -> b.setRate(Integer.MAX_VALUE, false, Integer.MIN_VALUE));
        due("kept by calls that throw", x.setRate(0, true, 3), 3);
        due("kept by calls that throw", x.setRate(1, false, 1), 100000);
    }

    private static void promise03SetBand() {
        about("promise 3");
        Bill x = new Bill();
        x.setRate(0, true, 1);
        x.takeAll(0, 10, 10, 10, 1);
        due("above 12 to 18", x.owed(0), 12 + 31 - 18);
        x.setBand(30, 30);
        due("above 30 to 30", x.owed(0), 31);
        x.setBand(1, 30);
        due("above 1 to 30", x.owed(0), 2);
        x.drop(0, 3);
        due("at the end", x.owed(0), 1);
        x.setBand(1, 1);
        due("above 1 to 1", x.owed(0), 30);
        x.setBand(30, 30);
        due("at the beginning", x.owed(0), 30);
        x.setBand(5, 20);
        fails("from 0", ARGUMENT, x, b -> b.setBand(0, 1));
        fails("from 31", ARGUMENT, x, b -> b.setBand(31, 31));
        fails("to below from", ARGUMENT, x, b -> b.setBand(5, 4));
        fails("to 31", ARGUMENT, x, b -> b.setBand(1, 31));
        fails("from below 0", ARGUMENT, x, b -> b.setBand(Integer.MIN_VALUE, 3));
        due("still 5 to 20", x.owed(0), 15);
    }

    private static void promise04SetShare() {
        about("promise 4");
        Bill x = new Bill();
        due("week 0 before", x.setShare(0, 100), 0);
        due("week 0 before", x.setShare(0, 0), 100);
        due("week 15 before", x.setShare(15, 1), 100);
        due("week 15 before", x.setShare(15, 33), 1);
        due("week 1 before", x.setShare(1, 10), 0);
        x.take(0, 1);
        x.take(0, 1);
        due("share of week 0", x.drop(0, 0), 0);
        x.close(1);
        due("share of week 1", x.drop(0, 1), 1000);
        x.take(1, 1);
        x.take(1, 1);
        x.close(13);
        due("share of week 14", x.drop(1, 0), 10000);
        x.close(1);
        due("share of week 15", x.drop(1, 1), 3300);
        fails("week -1", ARGUMENT, x, b -> b.setShare(-1, 0));
        fails("week 16", ARGUMENT, x, b -> b.setShare(16, 0));
        fails("week at the end of int", ARGUMENT, x, b -> b.setShare(Integer.MAX_VALUE, 0));
        fails("share -1", ARGUMENT, x, b -> b.setShare(0, -1));
        fails("share 101", ARGUMENT, x, b -> b.setShare(0, 101));
        due("kept by calls that throw", x.setShare(0, 0), 0);
    }

    private static void promise05SetFees() {
        about("promise 5");
        Bill x = new Bill();
        x.charge(0, TermBill.HOUSING, 1000000);
        x.setFees(100000, 1000000);
        due("not more than the limit", x.hasHold(0), false);
        x.charge(0, TermBill.HOUSING, 1);
        due("more than the limit", x.hasHold(0), true);
        x.plan(0, 2);
        fails("fee -1", ARGUMENT, x, b -> b.setFees(-1, 0));
        fails("fee 100001", ARGUMENT, x, b -> b.setFees(100001, 0));
        fails("limit -1", ARGUMENT, x, b -> b.setFees(0, -1));
        fails("limit 1000001", ARGUMENT, x, b -> b.setFees(0, 1000001));
        x.close(2);
        due("late fee", x.charged(0, TermBill.FEES), 100000);
        x.setFees(0, 0);
        due("a fee once made stays", x.charged(0, TermBill.FEES), 100000);
        x.close(2);
        due("late fee 0", x.charged(0, TermBill.FEES), 100000);
    }

    private static void promise06SetStudent() {
        about("promise 6");
        Bill x = new Bill();
        x.setRate(1, false, 3);
        x.take(3, 4);
        x.award(3, TermBill.GRANT, 1000);
        x.setStudent(3, 1, false, 5);
        due("level and residence", x.charged(3, TermBill.TUITION), 12);
        due("need", x.used(3, 0), 5);
        due("the others stay", x.owed(2), 0);
        x.setStudent(3, 0, true, 1000000);
        due("level and residence back", x.charged(3, TermBill.TUITION), 40000);
        due("need", x.used(3, 0), 1000);
        for (int student : WRONG_STUDENTS) {
            fails("student", INDEX, x, b -> b.setStudent(student, 0, true, 0));
            fails("student ahead of level", INDEX, x, b -> b.setStudent(student, 2, true, -1));
        }
        fails("level -1", ARGUMENT, x, b -> b.setStudent(3, -1, true, 0));
        fails("level 2", ARGUMENT, x, b -> b.setStudent(3, 2, false, 0));
        fails("need -1", ARGUMENT, x, b -> b.setStudent(3, 1, false, -1));
        fails("need 1000001", ARGUMENT, x, b -> b.setStudent(3, 1, false, 1000001));
    }

    private static void promise07SetSponsor() {
        about("promise 7");
        Bill x = new Bill();
        x.take(2, 1);
        x.charge(2, TermBill.FEES, 200);
        x.charge(2, TermBill.HOUSING, 30);
        int[] sums = {0, 10000, 200, 10200, 30, 10030, 230, 10230};
        for (int kinds = 0; kinds < 8; kinds++) {
            x.setSponsor(2, kinds, 1000000);
            due("kinds " + kinds, x.sponsored(2), sums[kinds]);
            due("owed", x.owed(2), 10230 - sums[kinds]);
            x.setSponsor(2, kinds, 25);
            due("kinds " + kinds + " up to 25", x.sponsored(2), Math.min(25, sums[kinds]));
            x.setSponsor(2, kinds, 0);
            due("kinds " + kinds + " up to 0", x.sponsored(2), 0);
        }
        x.setSponsor(2, 7, 100);
        for (int student : WRONG_STUDENTS) {
            fails("student", INDEX, x, b -> b.setSponsor(student, 0, 0));
            fails("student ahead of kinds", INDEX, x, b -> b.setSponsor(student, 8, -1));
        }
        fails("kinds -1", ARGUMENT, x, b -> b.setSponsor(2, -1, 0));
        fails("kinds 8", ARGUMENT, x, b -> b.setSponsor(2, 8, 0));
        fails("limit -1", ARGUMENT, x, b -> b.setSponsor(2, 0, -1));
        fails("limit 1000001", ARGUMENT, x, b -> b.setSponsor(2, 0, 1000001));
    }

    private static void promise08Take() {
        about("promise 8");
        Bill x = new Bill();
        for (int student : WRONG_STUDENTS) {
            fails("student", INDEX, x, b -> b.take(student, 1));
            fails("student ahead of credits", INDEX, x, b -> b.take(student, 0));
        }
        fails("credits 0", ARGUMENT, x, b -> b.take(0, 0));
        fails("credits 11", ARGUMENT, x, b -> b.take(0, 11));
        fails("credits at the end of int", ARGUMENT, x, b -> b.take(0, Integer.MIN_VALUE));
        for (int i = 0; i < 8; i++) {
            due("number", x.take(0, i == 0 ? 10 : i), i);
        }
        due("credits", x.credits(0), 38);
        due("numbers for each student", x.take(1, 1), 0);
        x.drop(0, 0);
        x.drop(0, 7);
        fails("dropped ones counted", STATE, x, b -> b.take(0, 1));
        fails("credits ahead of state", ARGUMENT, x, b -> b.take(0, 0));
        x.close(16);
        due("from 0 in each term", x.take(0, 1), 0);
        due("from 0 in each term", x.take(1, 1), 0);
    }

    private static void promise09Drop() {
        about("promise 9");
        Bill x = new Bill();
        x.setRate(0, true, 99);
        x.takeAll(0, 10, 4, 5, 1);
        x.setShare(0, 50);
        due("12 + 20 - 18 less 12 + 19 - 18", x.drop(0, 3), 49);
        due("kept", x.charged(0, TermBill.TUITION), 13 * 99 + 49);
        due("into the band", x.drop(0, 2), 49);
        due("below the band", x.drop(0, 0), 8 * 99 * 50 / 100);
        due("the rest", x.charged(0, TermBill.TUITION), 4 * 99 + 49 + 49 + 396);
        due("credits", x.credits(0), 4);
        x.setRate(0, true, 1);
        due("what was kept stays at other rates", x.charged(0, TermBill.TUITION), 4 + 494);
        x.setStudent(0, 1, false, 0);
        due("the last one, at the level now", x.drop(0, 1), 20000);
        due("only what was kept", x.charged(0, TermBill.TUITION), 20494);
        dropWithinBandKeepsNothing();
        x.take(1, 1);
        for (int student : WRONG_STUDENTS) {
            fails("student", INDEX, x, b -> b.drop(student, 0));
        }
        for (int course : new int[] {-1, 4, 8, Integer.MIN_VALUE, Integer.MAX_VALUE}) {
            fails("course " + course, INDEX, x, b -> b.drop(0, course));
        }
        fails("course of another student", INDEX, x, b -> b.drop(1, 1));
        fails("dropped", STATE, x, b -> b.drop(0, 2));
    }

    private static void dropWithinBandKeepsNothing() {
        Bill x = new Bill();
        x.takeAll(0, 10, 6, 2);
        x.close(5);
        due("from the band's end to its inside", x.drop(0, 2), 0);
        due("from inside below its beginning", x.drop(0, 1), 20000);
        due("tuition as ahead", x.owed(0), 120000);
        x.close(11);
        fails("courses of the term before", INDEX, x, b -> b.drop(0, 0));
    }

    private static void promise10Charge() {
        about("promise 10");
        Bill x = new Bill();
        due("fees", x.charge(0, TermBill.FEES, 1), 1);
        due("fees added up", x.charge(0, TermBill.FEES, 1000000), 1000001);
        due("housing", x.charge(0, TermBill.HOUSING, 7), 7);
        due("another student", x.charge(3, TermBill.FEES, 5), 5);
        for (int student : WRONG_STUDENTS) {
            fails("student", INDEX, x, b -> b.charge(student, 1, 1));
            fails("student ahead of kind", INDEX, x, b -> b.charge(student, 0, 0));
        }
        for (int kind : new int[] {0, 3, -1, 33, Integer.MAX_VALUE}) {
            fails("kind " + kind, ARGUMENT, x, b -> b.charge(0, kind, 1));
        }
        for (int kind = 1; kind < 3; kind++) {
            int good = kind;
            fails("amount 0", ARGUMENT, x, b -> b.charge(0, good, 0));
            fails("amount -1", ARGUMENT, x, b -> b.charge(0, good, -1));
            fails("amount 1000001", ARGUMENT, x, b -> b.charge(0, good, 1000001));
        }
        due("owed", x.owed(0), 1000008);
    }

    private static void promise11Award() {
        about("promise 11");
        Bill x = new Bill();
        for (int student : WRONG_STUDENTS) {
            fails("student", INDEX, x, b -> b.award(student, 0, 1));
            fails("student ahead of rank", INDEX, x, b -> b.award(student, 3, 0));
        }
        fails("rank -1", ARGUMENT, x, b -> b.award(0, -1, 1));
        fails("rank 3", ARGUMENT, x, b -> b.award(0, 3, 1));
        fails("amount 0", ARGUMENT, x, b -> b.award(0, 0, 0));
        fails("amount 1000001", ARGUMENT, x, b -> b.award(0, 2, 1000001));
        for (int i = 0; i < 6; i++) {
            due("number", x.award(0, i % 3, i == 0 ? 1000000 : i), i);
            due("amount", x.amountOf(0, i), i == 0 ? 1000000 : i);
        }
        due("numbers for each student", x.award(1, TermBill.LOAN, 1), 0);
        fails("a seventh award", STATE, x, b -> b.award(0, 0, 1));
        fails("rank ahead of state", ARGUMENT, x, b -> b.award(0, 3, 1));
        fails("amount ahead of state", ARGUMENT, x, b -> b.award(0, 0, 0));
        x.leave(0);
        fails("given back ones counted", STATE, x, b -> b.award(0, 0, 1));
        x.close(16);
        due("from 0 in each term", x.award(0, TermBill.WORK, 1), 0);
    }

    private static void promise12Pay() {
        about("promise 12");
        Bill x = new Bill();
        x.take(0, 1);
        due("owes then", x.pay(0, 1), 9999);
        due("owes then", x.pay(0, 9999), 0);
        due("credit then", x.pay(0, 1000000), -1000000);
        due("paid", x.paid(0), 1010000);
        due("the others stay", x.paid(1), 0);
        for (int student : WRONG_STUDENTS) {
            fails("student", INDEX, x, b -> b.pay(student, 1));
            fails("student ahead of amount", INDEX, x, b -> b.pay(student, 0));
        }
        fails("amount 0", ARGUMENT, x, b -> b.pay(0, 0));
        fails("amount -1", ARGUMENT, x, b -> b.pay(0, -1));
        fails("amount 1000001", ARGUMENT, x, b -> b.pay(0, 1000001));
    }

    private static void promise13Plan() {
        about("promise 13");
        for (int many = 1; many <= 4; many++) {
            Bill x = new Bill();
            x.charge(0, TermBill.FEES, 103);
            due("first of " + many, x.plan(0, many), 103 - 103 / many * (many - 1));
            due("owed stays", x.owed(0), 103);
        }
        Bill x = new Bill();
        x.charge(0, TermBill.FEES, 3);
        due("all in the first", x.plan(0, 4), 3);
        for (int student : WRONG_STUDENTS) {
            fails("student", INDEX, x, b -> b.plan(student, 1));
            fails("student ahead of many", INDEX, x, b -> b.plan(student, 0));
        }
        fails("many 0", ARGUMENT, x, b -> b.plan(0, 0));
        fails("many 5", ARGUMENT, x, b -> b.plan(0, 5));
        fails("many -1", ARGUMENT, x, b -> b.plan(0, -1));
        fails("many ahead of state", ARGUMENT, x, b -> b.plan(1, 0));
        fails("owes nothing", STATE, x, b -> b.plan(1, 1));
        x.pay(1, 1);
        fails("has a credit", STATE, x, b -> b.plan(1, 4));
        x.close(1);
        x.pay(0, 3);
        fails("owes nothing now", STATE, x, b -> b.plan(0, 1));
        x.close(1);
        due("the old plan is paid", x.charged(0, TermBill.FEES), 3);
    }

    /** The charges of the kind FEES after each of 10 weeks' ends, with the payments made in each week. */
    private static void lateFees(String what, int many, int[] payments, int[] fees) {
        Bill x = new Bill();
        x.setFees(1000, 0);
        x.close(3);
        x.charge(2, TermBill.HOUSING, 103);
        x.plan(2, many);
        for (int i = 0; i < fees.length; i++) {
            if (i < payments.length && payments[i] > 0) {
                x.pay(2, payments[i]);
            }
            x.close(1);
            due(what + " at the week " + (i + 1) + " behind", x.charged(2, TermBill.FEES), 1000 * fees[i]);
        }
        due("no other student", x.charged(3, TermBill.FEES) + x.charged(0, TermBill.FEES), 0);
    }

    private static void promise13LateFees() {
        about("promise 13, late fees");
        lateFees("nothing paid", 4, new int[] {}, new int[] {0, 1, 1, 2, 2, 3, 3, 4, 4, 4});
        lateFees("nothing paid", 3, new int[] {}, new int[] {0, 1, 1, 2, 2, 3, 3, 3, 3, 3});
        lateFees("nothing paid", 2, new int[] {}, new int[] {0, 1, 1, 2, 2, 2, 2, 2, 2, 2});
        lateFees("nothing paid", 1, new int[] {}, new int[] {0, 1, 1, 1, 1, 1, 1, 1, 1, 1});
        lateFees("just in time", 4, new int[] {0, 28, 0, 25, 0, 25, 0, 25}, new int[] {0, 0, 0, 0, 0, 0, 0, 0});
        lateFees("the first one short", 4, new int[] {27, 0, 26}, new int[] {0, 1, 1, 1, 1, 2, 2, 3});
        lateFees("the second one short", 4, new int[] {28, 0, 24, 0, 1}, new int[] {0, 0, 0, 1, 1, 2, 2, 3});
        lateFees("the last one short", 4, new int[] {102}, new int[] {0, 0, 0, 0, 0, 0, 0, 1});
        lateFees("all ahead", 4, new int[] {103}, new int[] {0, 0, 0, 0, 0, 0, 0, 0});
        laterPlanTakesThePlace();
    }

    private static void laterPlanTakesThePlace() {
        Bill x = new Bill();
        x.charge(0, TermBill.FEES, 100);
        x.pay(0, 50);
        due("first plan", x.plan(0, 2), 25);
        x.pay(0, 25);
        x.close(1);
        due("second plan", x.plan(0, 1), 25);
        x.close(1);
        due("none falls due at the old one's week", x.charged(0, TermBill.FEES), 100);
        x.close(1);
        due("paid since the later one was made", x.charged(0, TermBill.FEES), 2600);
        x.close(5);
        due("the old one is gone", x.charged(0, TermBill.FEES), 2600);
        x.setFees(1, 0);
        x.plan(0, 1);
        x.setFees(7, 0);
        x.close(2);
        due("the fee as it is then", x.charged(0, TermBill.FEES), 2607);
        instalmentsOfNothing();
    }

    private static void instalmentsOfNothing() {
        Bill x = new Bill();
        x.charge(1, TermBill.FEES, 2);
        due("first of 2, 0, 0", x.plan(1, 3), 2);
        x.pay(1, 1);
        x.close(8);
        due("instalments of 0 fall due too", x.charged(1, TermBill.FEES), 7502);
    }

    private static void promise13PlansInLaterTerms() {
        about("promise 13, later terms");
        Bill x = new Bill();
        x.close(12);
        x.charge(0, TermBill.HOUSING, 400);
        x.plan(0, 4);
        x.pay(0, 200);
        x.pay(1, 1000);
        x.close(3);
        due("the first one is paid", x.charged(0, TermBill.FEES), 0);
        due("week 0", x.closeWeek(), 0);
        due("carried, and the second one is paid", x.charged(0, TermBill.FEES), 0);
        due("carried from the other", x.owed(1), -800);
        x.close(2);
        due("carrying does not pay the third one", x.charged(0, TermBill.FEES), 2500);
        x.pay(0, 199);
        x.close(2);
        due("the fourth one is short", x.charged(0, TermBill.FEES), 5000);
        x.close(4);
        due("there is no fifth one", x.charged(0, TermBill.FEES), 5000);
        lateFeeAtTheBeginningOfATerm();
    }

    private static void lateFeeAtTheBeginningOfATerm() {
        Bill x = new Bill();
        x.close(14);
        x.take(0, 1);
        x.plan(0, 1);
        x.pay(1, 50000);
        x.close(1);
        due("week 15", x.charged(0, TermBill.FEES), 0);
        x.close(1);
        due("a late fee in the new term", x.charged(0, TermBill.FEES), 2500);
        due("it is owed", x.owed(0), 2500);
        due("behind the carrying", x.owed(1), -40000);
    }

    private static void promise14Leave() {
        about("promise 14");
        Bill x = new Bill();
        x.setRate(0, true, 100);
        x.setShare(3, 50);
        x.takeAll(0, 10, 5, 4);
        x.award(0, TermBill.LOAN, 30);
        x.award(0, TermBill.GRANT, 100);
        x.award(0, TermBill.WORK, 40);
        x.award(0, TermBill.LOAN, 31);
        x.close(3);
        x.drop(0, 1);
        due("13 less 12, halved", x.charged(0, TermBill.TUITION), 1250);
        due("201 less 37", x.leave(0), 164);
        due("12 less 4, halved, then 4 less 0, halved", x.charged(0, TermBill.TUITION), 50 + 400 + 200);
        due("credits", x.credits(0), 0);
        due("loans first", x.amountOf(0, 0) + x.amountOf(0, 3), 0);
        due("then work", x.amountOf(0, 2), 0);
        due("then grants", x.amountOf(0, 1), 37);
        fails("all are dropped", STATE, x, b -> b.drop(0, 0));
        due("again: 37 less 6", x.leave(0), 31);
        due("left", x.amountOf(0, 1), 6);
        due("it may take courses", x.take(0, 2), 3);
        leaveTakesOffByNumbersAndWeeks();
        due("nothing to leave", x.leave(1), 0);
        for (int student : WRONG_STUDENTS) {
            fails("student", INDEX, x, b -> b.leave(student));
        }
    }

    private static void leaveTakesOffByNumbersAndWeeks() {
        for (int week = 0; week < 16; week++) {
            Bill x = new Bill();
            x.award(0, TermBill.LOAN, 50);
            x.award(0, TermBill.LOAN, 51);
            x.close(week);
            int back = week >= 10 ? 0 : 101 - 101 * week / 16;
            due("back in the week " + week, x.leave(0), back);
            due("the lower number first", x.amountOf(0, 0), Math.max(0, 50 - back));
            due("then the next", x.amountOf(0, 1), Math.min(51, 101 - back));
        }
        Bill x = new Bill();
        x.setShare(0, 100);
        x.takeAll(3, 8, 10, 2);
        x.leave(3);
        due("in rising numbers", x.charged(3, TermBill.TUITION), 140000);
        keptByRisingNumbers();
    }

    private static void keptByRisingNumbers() {
        Bill x = new Bill();
        x.setRate(0, true, 1);
        x.setBand(1, 2);
        x.setShare(0, 50);
        x.takeAll(0, 1, 2);
        x.leave(0);
        due("2 less 1, halved, then 1 less 0, halved", x.charged(0, TermBill.TUITION), 0);
        x.takeAll(0, 2, 1);
        x.leave(0);
        due("2 less 1, halved, then 1 less 0, halved", x.charged(0, TermBill.TUITION), 0);
        x.setBand(2, 2);
        x.takeAll(0, 1, 2);
        x.leave(0);
        due("3 less 2, halved, then 2 less 0, halved", x.charged(0, TermBill.TUITION), 1);
        x.takeAll(0, 2, 1);
        x.leave(0);
        due("3 less 1, halved, then 1 less 0, halved", x.charged(0, TermBill.TUITION), 2);
    }

    private static void promise15CloseWeek() {
        about("promise 15");
        Bill x = new Bill();
        for (int i = 1; i < 160; i++) {
            due("week then", x.closeWeek(), i % 16);
            due("week", x.week(), i % 16);
            due("term", x.term(), i / 16);
        }
        x.charge(0, TermBill.FEES, 5);
        fails("week 15 of the term 9", STATE, x, b -> b.closeWeek());
        fails("and again", STATE, x, b -> b.closeWeek());
        due("charges stay", x.charged(0, TermBill.FEES), 5);
    }

    /** Balances of one family ahead of a term's end and behind it; students 0 and 1, or 2 and 3. */
    private static void carry(int[] ahead, int[] behind) {
        Bill x = new Bill();
        for (int s = 0; s < 4; s++) {
            if (ahead[s] > 0) {
                x.charge(s, TermBill.HOUSING, ahead[s]);
            } else if (ahead[s] < 0) {
                x.pay(s, -ahead[s]);
            }
        }
        x.close(15);
        for (int s = 0; s < 4; s++) {
            due("ahead, " + s, x.owed(s), ahead[s]);
        }
        x.close(1);
        for (int s = 0; s < 4; s++) {
            due("owed, " + s, x.owed(s), behind[s]);
            due("fees, " + s, x.charged(s, TermBill.FEES), Math.max(0, behind[s]));
            due("paid, " + s, x.paid(s), Math.max(0, -behind[s]));
        }
    }

    private static void promise15Carrying() {
        about("promise 15, carrying");
        carry(new int[] {100, -30, -30, 100}, new int[] {70, 0, 0, 70});
        carry(new int[] {30, -100, -100, 30}, new int[] {0, -70, -70, 0});
        carry(new int[] {50, -50, -50, 50}, new int[] {0, 0, 0, 0});
        carry(new int[] {1, -1, -1, 2}, new int[] {0, 0, 0, 1});
        carry(new int[] {50, 40, -50, -40}, new int[] {50, 40, -50, -40});
        carry(new int[] {50, 0, 0, -40}, new int[] {50, 0, 0, -40});
        carry(new int[] {0, 50, -40, 0}, new int[] {0, 50, -40, 0});
    }

    private static void promise15NewTerm() {
        about("promise 15, a new term");
        Bill x = new Bill();
        x.setRate(1, false, 10);
        x.setStudent(0, 1, false, 77);
        x.setSponsor(0, 7, 5);
        x.takeAll(0, 3, 2);
        x.drop(0, 1);
        x.award(0, TermBill.GRANT, 7);
        x.charge(0, TermBill.FEES, 100);
        x.charge(0, TermBill.HOUSING, 200);
        x.pay(0, 18);
        due("owed", x.owed(0), 300);
        x.close(16);
        due("owed then", x.owed(0), 300);
        due("tuition", x.charged(0, TermBill.TUITION), 0);
        due("fees", x.charged(0, TermBill.FEES), 300);
        due("housing", x.charged(0, TermBill.HOUSING), 0);
        due("sponsored", x.sponsored(0), 0);
        due("paid", x.paid(0), 0);
        due("credits", x.credits(0), 0);
        fails("no awards", INDEX, x, b -> b.amountOf(0, 0));
        fails("no awards", INDEX, x, b -> b.used(0, 0));
        fails("no courses", INDEX, x, b -> b.drop(0, 0));
        x.take(0, 1);
        due("level and residence stay", x.charged(0, TermBill.TUITION), 10);
        x.award(0, TermBill.GRANT, 1000);
        due("the need stays", x.used(0, 0), 77);
        x.leave(0);
        due("what was kept of the term before is gone", x.charged(0, TermBill.TUITION), 0);
        keptOfTheTermBeforeIsGone();
    }

    private static void keptOfTheTermBeforeIsGone() {
        Bill x = new Bill();
        x.setShare(0, 100);
        x.take(0, 2);
        x.drop(0, 0);
        x.close(16);
        due("it is a fee now", x.charged(0, TermBill.FEES), 20000);
        due("not tuition", x.charged(0, TermBill.TUITION), 0);
        due("owed", x.owed(0), 20000);
    }

    private static void promise16And17WeekAndTerm() {
        about("promise 16 and 17");
        Bill x = new Bill();
        x.close(15);
        due("week", x.week(), 15);
        due("term", x.term(), 0);
        x.close(1);
        due("week", x.week(), 0);
        due("term", x.term(), 1);
        x.close(35);
        due("week", x.week(), 3);
        due("term", x.term(), 3);
    }

    private static void promise18Credits() {
        about("promise 18");
        Bill x = new Bill();
        x.takeAll(1, 10, 9, 8);
        due("credits", x.credits(1), 27);
        x.drop(1, 1);
        due("not those of dropped courses", x.credits(1), 18);
        due("of another one", x.credits(0), 0);
        for (int student : WRONG_STUDENTS) {
            fails("student", INDEX, x, b -> b.credits(student));
        }
    }

    private static void promise19Charged() {
        about("promise 19");
        Bill x = new Bill();
        x.take(1, 2);
        x.charge(1, TermBill.FEES, 3);
        x.charge(1, TermBill.HOUSING, 4);
        due("tuition", x.charged(1, TermBill.TUITION), 20000);
        due("fees", x.charged(1, TermBill.FEES), 3);
        due("housing", x.charged(1, TermBill.HOUSING), 4);
        for (int student : WRONG_STUDENTS) {
            fails("student", INDEX, x, b -> b.charged(student, 0));
            fails("student ahead of kind", INDEX, x, b -> b.charged(student, 3));
        }
        for (int kind : new int[] {-1, 3, 32, Integer.MIN_VALUE, Integer.MAX_VALUE}) {
            fails("kind " + kind, ARGUMENT, x, b -> b.charged(1, kind));
        }
    }

    private static void promise20Sponsored() {
        about("promise 20");
        Bill x = new Bill();
        x.setSponsor(3, 5, 15000);
        due("no charges", x.sponsored(3), 0);
        x.charge(3, TermBill.FEES, 999);
        due("no charges of its kinds", x.sponsored(3), 0);
        x.take(3, 1);
        due("tuition", x.sponsored(3), 10000);
        x.charge(3, TermBill.HOUSING, 5000);
        due("tuition and housing, at the limit", x.sponsored(3), 15000);
        x.charge(3, TermBill.HOUSING, 1);
        due("at most the limit", x.sponsored(3), 15000);
        x.setSponsor(3, 2, 1000);
        due("in place of the one before", x.sponsored(3), 999);
        for (int student : WRONG_STUDENTS) {
            fails("student", INDEX, x, b -> b.sponsored(student));
        }
    }

    private static void promise21Used() {
        about("promise 21");
        Bill x = new Bill();
        x.setStudent(0, 0, true, 30);
        x.award(0, TermBill.LOAN, 10);
        x.award(0, TermBill.WORK, 20);
        x.award(0, TermBill.GRANT, 25);
        x.award(0, TermBill.GRANT, 15);
        x.award(0, TermBill.WORK, 20);
        dueUsed(x, 0, 0, 0, 0, 0);
        x.charge(0, TermBill.HOUSING, 24);
        dueUsed(x, 0, 0, 24, 0, 0);
        x.charge(0, TermBill.HOUSING, 2);
        dueUsed(x, 0, 0, 25, 1, 0);
        x.charge(0, TermBill.HOUSING, 30);
        dueUsed(x, 0, 20, 25, 5, 6);
        x.charge(0, TermBill.HOUSING, 100);
        dueUsed(x, 10, 20, 25, 5, 20);
        due("owed", x.owed(0), 76);
        x.pay(0, 1000);
        dueUsed(x, 10, 20, 25, 5, 20);
        x.setSponsor(0, 4, 100);
        dueUsed(x, 0, 20, 25, 5, 6);
        x.setStudent(0, 0, true, 0);
        dueUsed(x, 10, 20, 0, 0, 20);
        for (int student : WRONG_STUDENTS) {
            fails("student", INDEX, x, b -> b.used(student, 0));
        }
        for (int award : new int[] {-1, 5, 6, Integer.MIN_VALUE, Integer.MAX_VALUE}) {
            fails("award " + award, INDEX, x, b -> b.used(0, award));
        }
        fails("award of another one", INDEX, x, b -> b.used(1, 0));
    }

    private static void dueUsed(Bill x, int... uses) {
        for (int i = 0; i < uses.length; i++) {
            due("used of " + i, x.used(0, i), uses[i]);
        }
    }

    private static void promise22AmountOf() {
        about("promise 22");
        Bill x = new Bill();
        x.award(2, TermBill.GRANT, 160);
        x.award(2, TermBill.GRANT, 1000000);
        due("amount", x.amountOf(2, 0), 160);
        due("amount", x.amountOf(2, 1), 1000000);
        x.close(9);
        x.leave(2);
        due("given back", x.amountOf(2, 0), 0);
        due("less what was given back", x.amountOf(2, 1), 1000160 * 9 / 16);
        for (int student : WRONG_STUDENTS) {
            fails("student", INDEX, x, b -> b.amountOf(student, 0));
        }
        for (int award : new int[] {-1, 2, 6, Integer.MIN_VALUE, Integer.MAX_VALUE}) {
            fails("award " + award, INDEX, x, b -> b.amountOf(2, award));
        }
    }

    private static void promise23Paid() {
        about("promise 23");
        Bill x = new Bill();
        x.pay(0, 100);
        x.charge(0, TermBill.FEES, 30);
        x.pay(2, 60);
        x.charge(2, TermBill.FEES, 60);
        due("paid", x.paid(0), 100);
        x.close(16);
        due("the credit counts as paid", x.paid(0), 70);
        due("nothing counts as paid", x.paid(2), 0);
        x.pay(0, 5);
        due("added", x.paid(0), 75);
        for (int student : WRONG_STUDENTS) {
            fails("student", INDEX, x, b -> b.paid(student));
        }
    }

    private static void promise24Owed() {
        about("promise 24");
        Bill x = new Bill();
        x.take(1, 3);
        x.charge(1, TermBill.FEES, 200);
        x.charge(1, TermBill.HOUSING, 30);
        x.setSponsor(1, 1, 20000);
        x.award(1, TermBill.WORK, 4000);
        x.pay(1, 5);
        due("owed", x.owed(1), 30230 - 20000 - 4000 - 5);
        x.pay(1, 10000);
        due("below 0", x.owed(1), -3775);
        x.award(1, TermBill.LOAN, 1000000);
        due("aid covers charges, not what was paid", x.owed(1), -10005);
        for (int student : WRONG_STUDENTS) {
            fails("student", INDEX, x, b -> b.owed(student));
        }
    }

    private static void promise25HasHold() {
        about("promise 25");
        Bill x = new Bill();
        x.setFees(0, 50);
        due("nothing", x.hasHold(3), false);
        x.charge(3, TermBill.FEES, 50);
        due("at the limit", x.hasHold(3), false);
        x.charge(3, TermBill.FEES, 1);
        due("above the limit", x.hasHold(3), true);
        due("another one", x.hasHold(2), false);
        x.pay(3, 1);
        due("paid", x.hasHold(3), false);
        x.setFees(0, 0);
        due("another limit", x.hasHold(3), true);
        x.pay(3, 50);
        due("owes nothing", x.hasHold(3), false);
        x.pay(3, 1);
        due("a credit", x.hasHold(3), false);
        for (int student : WRONG_STUDENTS) {
            fails("student", INDEX, x, b -> b.hasHold(student));
        }
    }

    private static void constants() {
        about("promise the constants");
        due("TUITION", TermBill.TUITION, 0);
        due("FEES", TermBill.FEES, 1);
        due("HOUSING", TermBill.HOUSING, 2);
        due("GRANT", TermBill.GRANT, 0);
        due("WORK", TermBill.WORK, 1);
        due("LOAN", TermBill.LOAN, 2);
    }
}
