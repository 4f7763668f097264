/** Tuition at its edges: the flat band, levels and residence, courses, what is kept of dropped ones, the table. */
public final class EdgesOfTuitionTest extends Check {
    public static void main(String[] args) {
        newObject();
        noCourse();
        bandWithBothEnds();
        bandsOfOneNumber();
        widestBand();
        allCourses();
        leastAndMostRate();
        ratesAsTheyAreNow();
        levelsAndResidence();
        keptIsRoundedDown();
        keptAcrossTheBand();
        keptStays();
        eachKeptIsRoundedDownOnItsOwn();
        shareOfTheWeek();
        tableOfANewObject();
        leastAndMostShare();
        coursesAreNumberedFromZero();
        droppedCourses();
        creditsOfOneStudent();
        end("EdgesOfTuitionTest");
    }

    /** A bill on which each credit of each student costs some cents. */
    private static Bill at(int rate) {
        Bill x = new Bill();
        for (int level = 0; level < 2; level++) {
            x.setRate(level, true, rate);
            x.setRate(level, false, rate);
        }
        return x;
    }

    /** A student takes courses of at most 10 credits until it has so many. */
    private static void takeUpTo(Bill x, int student, int credits) {
        int left = credits - x.credits(student);
        while (left > 0) {
            int part = Math.min(left, 10);
            x.take(student, part);
            left -= part;
        }
        due("credits", x.credits(student), credits);
    }

    private static void tuition(String what, Bill x, int student, int want) {
        due("tuition, " + what, x.charged(student, TermBill.TUITION), want);
    }

    private static void price(int from, int to, int credits, int want) {
        Bill x = at(1);
        x.setBand(from, to);
        takeUpTo(x, 3, credits);
        tuition(credits + " credits, band from " + from + " to " + to, x, 3, want);
    }

    /** "all students have the level 0 and are resident", "all rates are 10000, the band goes from 12 to 18". */
    private static void newObject() {
        about("a new object");
        for (int student = 0; student < 4; student++) {
            Bill x = new Bill();
            due("rate", x.setRate(0, true, 3), 10000);
            due("rate", x.setRate(0, false, 5), 10000);
            due("rate", x.setRate(1, true, 7), 10000);
            due("rate", x.setRate(1, false, 11), 10000);
            takeUpTo(x, student, 11);
            tuition("one below the band", x, student, 33);
            x.take(student, 1);
            tuition("at its beginning", x, student, 36);
            x.take(student, 6);
            tuition("at its end", x, student, 36);
            x.take(student, 1);
            tuition("one above it", x, student, 39);
        }
    }

    /** "The price of c credits" of none, also at the widest band and the highest rate. */
    private static void noCourse() {
        about("no course");
        for (int from : new int[] {1, 12, 30}) {
            Bill x = at(100000);
            x.setBand(from, 30);
            tuition("none taken", x, 0, 0);
            due("credits", x.credits(0), 0);
            due("owed", x.owed(0), 0);
            x.take(0, 1);
            x.drop(0, 0);
            tuition("the only one dropped", x, 0, 0);
            due("credits", x.credits(0), 0);
        }
    }

    /** "up to the beginning of the band ..; within the band (both ends included) ..; above it ..". */
    private static void bandWithBothEnds() {
        about("the band from 12 to 18");
        int[][] prices = {{1, 1}, {2, 2}, {11, 11}, {12, 12}, {13, 12}, {17, 12}, {18, 12}, {19, 13}, {20, 14}, {80, 74}};
        for (int[] price : prices) {
            price(12, 18, price[0], price[1]);
        }
        about("the band from 12 to 13");
        for (int[] price : new int[][] {{11, 11}, {12, 12}, {13, 12}, {14, 13}}) {
            price(12, 13, price[0], price[1]);
        }
    }

    /** "to: from to 30": a band whose ends are the same number takes nothing off. */
    private static void bandsOfOneNumber() {
        about("a band of one number");
        for (int[] price : new int[][] {{1, 1}, {2, 2}, {11, 11}, {12, 12}, {13, 13}, {29, 29}, {30, 30}, {31, 31}, {80, 80}}) {
            price(1, 1, price[0], price[1]);
            price(12, 12, price[0], price[1]);
            price(30, 30, price[0], price[1]);
        }
    }

    /** "from: 1 to 30", "to: from to 30": the first and the last numbers that are taken. */
    private static void widestBand() {
        about("the widest band");
        for (int[] price : new int[][] {{1, 1}, {2, 1}, {29, 1}, {30, 1}, {31, 2}, {80, 51}}) {
            price(1, 30, price[0], price[1]);
        }
        about("a band at the end");
        for (int[] price : new int[][] {{28, 28}, {29, 29}, {30, 29}, {31, 30}}) {
            price(29, 30, price[0], price[1]);
        }
        about("a band at the beginning");
        for (int[] price : new int[][] {{1, 1}, {2, 1}, {3, 2}, {4, 3}}) {
            price(1, 2, price[0], price[1]);
        }
    }

    /** "if it has taken 8 courses in the term", each of "1 to 10" credits. */
    private static void allCourses() {
        about("all courses of a term");
        Bill x = at(100000);
        x.setBand(30, 30);
        x.takeAll(2, 10, 10, 10, 10, 10, 10, 10, 10);
        due("credits", x.credits(2), 80);
        tuition("80 credits at the highest rate", x, 2, 8000000);
        due("owed", x.owed(2), 8000000);
        x.setBand(1, 30);
        tuition("80 credits, the widest band", x, 2, 5100000);
        fails("take", STATE, x, b -> b.take(2, 10));
        x.close(2);
        x.leave(2);
        tuition("all dropped, all kept", x, 2, 5100000);
        fails("take", STATE, x, b -> b.take(2, 1));
    }

    /** "rate: 0 to 100000". */
    private static void leastAndMostRate() {
        about("the least and the most rate");
        for (int student = 0; student < 4; student++) {
            Bill x = at(5);
            int level = student / 2;
            boolean isResident = student % 2 == 0;
            x.setStudent(student, level, isResident, 0);
            x.take(student, 1);
            due("before", x.setRate(level, isResident, 0), 5);
            tuition("rate 0", x, student, 0);
            due("before", x.setRate(level, isResident, 100000), 0);
            tuition("rate 100000", x, student, 100000);
            due("before", x.setRate(level, isResident, 1), 100000);
            tuition("rate 1", x, student, 1);
            due("before", x.setRate(level, isResident, 1), 1);
        }
    }

    /** "by level, residence and rates as they are now". */
    private static void ratesAsTheyAreNow() {
        about("rates as they are now");
        Bill x = at(10);
        x.take(0, 3);
        tuition("ahead", x, 0, 30);
        x.setRate(0, true, 11);
        tuition("a later rate", x, 0, 33);
        x.setRate(1, false, 13);
        tuition("another one's rate", x, 0, 33);
        x.setStudent(0, 1, false, 0);
        tuition("another level and residence", x, 0, 39);
        x.setBand(2, 2);
        x.setBand(2, 3);
        tuition("a later band", x, 0, 26);
        x.close(2);
        due("kept at the rate of the drop", x.drop(0, 0), 26);
        x.setRate(1, false, 0);
        tuition("what was kept stays", x, 0, 26);
    }

    /** "There is a rate for each level and residence". */
    private static void levelsAndResidence() {
        about("a rate for each level and residence");
        int[] rates = {2, 3, 5, 7};
        for (int which = 0; which < 4; which++) {
            Bill x = at(0);
            x.setRate(which / 2, which % 2 == 0, rates[which]);
            for (int student = 0; student < 4; student++) {
                x.setStudent(student, student / 2, student % 2 == 0, 0);
                x.take(student, 1);
                tuition("rate " + which + ", student " + student, x, student, student == which ? rates[which] : 0);
            }
        }
    }

    private static void kept(int rate, int share, int want) {
        Bill x = at(rate);
        x.setShare(0, share);
        x.take(1, 1);
        due("kept of " + rate + " at " + share, x.drop(1, 0), want);
        tuition("kept of " + rate + " at " + share, x, 1, want);
    }

    /** "times the share that the table keeps for that week, divided by 100, rounded down". */
    private static void keptIsRoundedDown() {
        about("what is kept, rounded down");
        kept(1, 99, 0);
        kept(1, 100, 1);
        kept(99, 1, 0);
        kept(100, 1, 1);
        kept(199, 1, 1);
        kept(200, 1, 2);
        kept(1, 50, 0);
        kept(2, 50, 1);
        kept(3, 50, 1);
        kept(3, 33, 0);
        kept(3, 34, 1);
        kept(101, 99, 99);
        kept(0, 100, 0);
        kept(100000, 0, 0);
        kept(100000, 100, 100000);
        kept(100000, 99, 99000);
        kept(99999, 99, 98999);
    }

    private static void keptOf(int credits, int dropped, int want) {
        Bill x = at(1);
        x.setShare(0, 100);
        takeUpTo(x, 0, credits - dropped);
        int course = x.take(0, dropped);
        due("kept of " + dropped + " of " + credits, x.drop(0, course), want);
    }

    /** "the price of all its credits (of courses that are not dropped) ahead of it, less that behind it". */
    private static void keptAcrossTheBand() {
        about("what is kept across the band from 12 to 18");
        keptOf(20, 1, 1);
        keptOf(19, 1, 1);
        keptOf(18, 1, 0);
        keptOf(13, 1, 0);
        keptOf(12, 1, 1);
        keptOf(11, 1, 1);
        keptOf(1, 1, 1);
        keptOf(18, 6, 0);
        keptOf(19, 7, 1);
        keptOf(18, 7, 1);
        keptOf(19, 8, 2);
        keptOf(20, 10, 4);
        keptOf(10, 10, 10);
    }

    /** "and what was kept of dropped courses": whatever comes behind. */
    private static void keptStays() {
        about("what was kept");
        Bill x = at(10);
        x.setShare(0, 50);
        x.takeAll(0, 3, 2);
        due("kept", x.drop(0, 0), 15);
        x.setShare(0, 100);
        x.setRate(0, true, 1);
        tuition("2 at the rate now, and what was kept", x, 0, 17);
        x.setBand(1, 30);
        tuition("the band now, and what was kept", x, 0, 16);
        x.setStudent(0, 1, true, 0);
        tuition("the level now, and what was kept", x, 0, 25);
        x.take(0, 1);
        x.close(5);
        tuition("in another week", x, 0, 25);
    }

    /** "rounded down": for each course that is dropped, not for all together. */
    private static void eachKeptIsRoundedDownOnItsOwn() {
        about("each course dropped");
        Bill x = at(1);
        x.setShare(0, 50);
        x.takeAll(0, 1, 1, 3, 3);
        int[] kept = {0, 0, 1, 1};
        for (int course = 0; course < 4; course++) {
            due("kept", x.drop(0, course), kept[course]);
        }
        tuition("all dropped", x, 0, 2);
    }

    /** "The table has a share for each week, 0 to 100": each week of a term, and the same ones in the next. */
    private static void shareOfTheWeek() {
        about("the share of the week");
        Bill x = at(100);
        for (int week = 0; week < 16; week++) {
            x.setShare(week, 10 + week);
        }
        for (int week = 0; week < 18; week++) {
            int course = x.take(week % 4, 1);
            due("kept in the week " + week, x.drop(week % 4, course), 10 + week % 16);
            x.closeWeek();
        }
        due("before", x.setShare(2, 90), 12);
        due("kept at the share now", x.drop(0, x.take(0, 1)), 90);
        due("before", x.setShare(1, 80), 11);
        due("kept at the share of this week", x.drop(0, x.take(0, 1)), 90);
        due("before", x.setShare(3, 70), 13);
        due("kept at the share of this week", x.drop(0, x.take(0, 1)), 90);
    }

    /** "the table keeps 0 in the weeks 0 and 1, and 100 in all others", in each term. */
    private static void tableOfANewObject() {
        about("the table of a new object");
        Bill x = at(7);
        for (int week = 0; week < 32; week++) {
            int course = x.take(week % 4, 1);
            due("kept in the week " + week, x.drop(week % 4, course), week % 16 < 2 ? 0 : 7);
            x.closeWeek();
        }
        for (int week = 0; week < 16; week++) {
            due("share of the week " + week, x.setShare(week, 1), week < 2 ? 0 : 100);
        }
    }

    /** "share: 0 to 100", "week: 0 to 15". */
    private static void leastAndMostShare() {
        about("the least and the most share");
        for (int week : new int[] {0, 1, 14, 15}) {
            Bill x = at(200);
            due("before", x.setShare(week, 50), week < 2 ? 0 : 100);
            due("before", x.setShare(week, 0), 50);
            x.takeAll(0, 1, 1, 1, 1);
            x.close(week);
            due("share 0", x.drop(0, 0), 0);
            due("before", x.setShare(week, 1), 0);
            due("share 1", x.drop(0, 1), 2);
            due("before", x.setShare(week, 99), 1);
            due("share 99", x.drop(0, 2), 198);
            due("before", x.setShare(week, 100), 99);
            due("share 100", x.drop(0, 3), 200);
            tuition("all kept", x, 0, 400);
        }
    }

    /** "the number of the course, from 0 in each term, for each student"; "dropped ones counted". */
    private static void coursesAreNumberedFromZero() {
        about("numbers of courses");
        Bill x = at(1);
        for (int term = 0; term < 3; term++) {
            for (int course = 0; course < 8; course++) {
                for (int student = 0; student < 4; student++) {
                    due("number", x.take(student, 1), course);
                }
                x.drop(course % 4, course);
            }
            for (int student = 0; student < 4; student++) {
                int full = student;
                fails("a ninth course", STATE, x, b -> b.take(full, 1));
            }
            x.close(16);
        }
    }

    /** "if it is dropped": by a drop or by leaving; "if there is no such .. course". */
    private static void droppedCourses() {
        about("dropped courses");
        Bill x = at(1);
        fails("no course", INDEX, x, b -> b.drop(0, 0));
        x.take(0, 1);
        fails("behind the last one", INDEX, x, b -> b.drop(0, 1));
        fails("another one's", INDEX, x, b -> b.drop(1, 0));
        x.drop(0, 0);
        fails("dropped", STATE, x, b -> b.drop(0, 0));
        due("the next number", x.take(0, 1), 1);
        fails("still dropped", STATE, x, b -> b.drop(0, 0));
        x.leave(0);
        fails("dropped by leaving", STATE, x, b -> b.drop(0, 1));
        fails("behind the last one", INDEX, x, b -> b.drop(0, 2));
        x.takeAll(0, 1, 1, 1, 1, 1, 1);
        fails("behind the eighth", INDEX, x, b -> b.drop(0, 8));
        due("the eighth", x.drop(0, 7), 0);
        x.close(16);
        fails("of the term before", INDEX, x, b -> b.drop(0, 0));
    }

    /** "how many credits a student has, of courses that are not dropped". */
    private static void creditsOfOneStudent() {
        about("credits");
        Bill x = at(1);
        x.takeAll(0, 1, 10);
        x.takeAll(1, 10, 10, 10, 10, 10, 10, 10, 10);
        due("two courses", x.credits(0), 11);
        due("all courses", x.credits(1), 80);
        due("none", x.credits(2), 0);
        x.drop(0, 1);
        due("one dropped", x.credits(0), 1);
        x.drop(0, 0);
        due("both dropped", x.credits(0), 0);
        x.leave(1);
        due("left", x.credits(1), 0);
        x.takeAll(2, 7);
        x.close(16);
        due("a new term", x.credits(2), 0);
    }
}
