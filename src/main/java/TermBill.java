import java.util.Arrays;

/**
 * A ledger of fees of a college: tuition by credit hours with a flat band, courses dropped by weeks
 * with refunds by a table, other charges, sponsors who pay some kinds up to a sum, aid in ranks with
 * needs, aid given back when a student leaves, payment plans with late fees, holds, and balances
 * carried within families.
 */
public final class TermBill {
    /** Kinds of charges. */
    public static final int TUITION = 0, FEES = 1, HOUSING = 2;
    /** Ranks of aid. */
    public static final int GRANT = 0, WORK = 1, LOAN = 2;

    private static final int STUDENTS = 4;
    private static final int FAMILY = 2;
    private static final int LAST_LEVEL = 1;
    private static final int RATES = 4;
    private static final int WEEKS = 16;
    private static final int LAST_WEEK = WEEKS - 1;
    private static final int LAST_TERM = 9;
    private static final int MAX_COURSES = 8;
    private static final int MAX_CREDITS = 10;
    private static final int MAX_AWARDS = 6;
    private static final int MAX_INSTALMENTS = 4;
    private static final int WEEKS_BETWEEN_INSTALMENTS = 2;
    private static final int MAX_BAND = 30;
    private static final int MAX_SHARE = 100;
    private static final int MAX_RATE = 100000;
    private static final int MAX_LATE_FEE = 100000;
    private static final int MAX_SUM = 1000000;
    private static final int TUITION_BIT = 1 << TUITION, FEES_BIT = 1 << FEES, HOUSING_BIT = 1 << HOUSING;
    private static final int ALL_KINDS = TUITION_BIT | FEES_BIT | HOUSING_BIT;
    private static final int WEEK_THAT_EARNS_AID = 10;

    private final Student[] students = new Student[STUDENTS];
    private final int[] rates = new int[RATES];
    private final int[] shares = new int[WEEKS];
    private int bandFrom = 12;
    private int bandTo = 18;
    private int lateFee = 2500;
    private int holdLimit = 0;
    private int week = 0;
    private int term = 0;

    public TermBill() {
        for (int i = 0; i < students.length; i++) {
            students[i] = new Student();
        }
        Arrays.fill(rates, 10000);
        Arrays.fill(shares, MAX_SHARE);
        shares[0] = 0;
        shares[1] = 0;
    }

    // ---- settings

    /** Sets a rate; returns the rate before. */
    public int setRate(int level, boolean isResident, int rate) throws IllegalArgumentException {
        int place = placeOfRate(level, isResident);
        if (place < 0 || place >= rates.length || !isWithin(rate, 0, MAX_RATE)) {
            throw new IllegalArgumentException("level or rate is out of range");
        }
        int before = rates[place];
        rates[place] = rate;
        return before;
    }

    /** Sets the flat band. */
    public void setBand(int from, int to) throws IllegalArgumentException {
        if (!isWithin(from, 1, MAX_BAND) || !isWithin(to, from, MAX_BAND)) {
            throw new IllegalArgumentException("from or to is out of range");
        }
        bandFrom = from;
        bandTo = to;
    }

    /** Sets the share that the table keeps for a week; returns the share before. */
    public int setShare(int week, int share) throws IllegalArgumentException {
        if (week < 0 || week >= shares.length || !isWithin(share, 0, MAX_SHARE)) {
            throw new IllegalArgumentException("week or share is out of range");
        }
        int before = shares[week];
        shares[week] = share;
        return before;
    }

    /** Sets the late fee, and the limit of holds. */
    public void setFees(int fee, int limit) throws IllegalArgumentException {
        if (!isWithin(fee, 0, MAX_LATE_FEE) || !isWithin(limit, 0, MAX_SUM)) {
            throw new IllegalArgumentException("fee or limit is out of range");
        }
        lateFee = fee;
        holdLimit = limit;
    }

    /** Sets level, residence and need of a student. */
    public void setStudent(int student, int level, boolean isResident, int need)
            throws IndexOutOfBoundsException, IllegalArgumentException {
        Student one = studentAt(student);
        if (!isWithin(level, 0, LAST_LEVEL) || !isWithin(need, 0, MAX_SUM)) {
            throw new IllegalArgumentException("level or need is out of range");
        }
        one.level = level;
        one.isResident = isResident;
        one.need = need;
    }

    /** Sets the sponsor of a student, in place of one that there may be. */
    public void setSponsor(int student, int kinds, int limit)
            throws IndexOutOfBoundsException, IllegalArgumentException {
        Student one = studentAt(student);
        if (!isWithin(kinds, 0, ALL_KINDS) || !isWithin(limit, 0, MAX_SUM)) {
            throw new IllegalArgumentException("kinds or limit is out of range");
        }
        one.sponsorKinds = kinds;
        one.sponsorLimit = limit;
    }

    // ---- what happens

    /** A student takes a course; returns the number of the course. */
    public int take(int student, int credits)
            throws IndexOutOfBoundsException, IllegalArgumentException, IllegalStateException {
        Student one = studentAt(student);
        if (!isWithin(credits, 1, MAX_CREDITS)) {
            throw new IllegalArgumentException("credits is out of range");
        }
        int course = one.courses.add(credits);
        if (course < 0) {
            throw new IllegalStateException("it has taken all courses of the term");
        }
        return course;
    }

    /** A student drops a course; returns what is kept of it. */
    public int drop(int student, int course) throws IndexOutOfBoundsException, IllegalStateException {
        Student one = studentAt(student);
        if (!one.courses.has(course)) {
            throw new IndexOutOfBoundsException("no such course");
        }
        if (one.courses.creditsOf(course) == 0) {
            throw new IllegalStateException("the course is dropped");
        }
        return dropCourse(one, course);
    }

    /** Charges a student; returns all its charges of the kind then. */
    public int charge(int student, int kind, int amount)
            throws IndexOutOfBoundsException, IllegalArgumentException {
        Student one = studentAt(student);
        if ((kind != FEES && kind != HOUSING) || !isWithin(amount, 1, MAX_SUM)) {
            throw new IllegalArgumentException("kind or amount is out of range");
        }
        if (kind == FEES) {
            one.fees += amount;
            return one.fees;
        }
        one.housing += amount;
        return one.housing;
    }

    /** Awards aid to a student; returns the number of the award. */
    public int award(int student, int rank, int amount)
            throws IndexOutOfBoundsException, IllegalArgumentException, IllegalStateException {
        Student one = studentAt(student);
        if (!isWithin(rank, GRANT, LOAN) || !isWithin(amount, 1, MAX_SUM)) {
            throw new IllegalArgumentException("rank or amount is out of range");
        }
        int number = one.aid.add(rank, amount);
        if (number < 0) {
            throw new IllegalStateException("it has all awards of the term");
        }
        return number;
    }

    /** A student pays; returns what it owes then. */
    public int pay(int student, int amount) throws IndexOutOfBoundsException, IllegalArgumentException {
        Student one = studentAt(student);
        if (!isWithin(amount, 1, MAX_SUM)) {
            throw new IllegalArgumentException("amount is out of range");
        }
        one.paidSum += amount;
        one.instalments.paidSince += amount;
        return balanceOf(one);
    }

    /** Makes a plan; returns the first instalment. */
    public int plan(int student, int many)
            throws IndexOutOfBoundsException, IllegalArgumentException, IllegalStateException {
        Student one = studentAt(student);
        if (many < 1 || many > MAX_INSTALMENTS) {
            throw new IllegalArgumentException("many is out of range");
        }
        int balance = balanceOf(one);
        if (balance <= 0) {
            throw new IllegalStateException("it owes nothing");
        }
        int each = balance / many;
        int first = balance - each * (many - 1);
        one.instalments.start(weekNumber(), many, first, each);
        return first;
    }

    /** A student leaves; returns what aid is given back. */
    public int leave(int student) throws IndexOutOfBoundsException {
        Student one = studentAt(student);
        for (int course = 0; course < MAX_COURSES; course++) {
            if (one.courses.creditsOf(course) > 0) {
                dropCourse(one, course);
            }
        }
        int back = aidToGiveBack(one.aid.total());
        one.aid.takeOff(back);
        return back;
    }

    /** Lets a week end; returns the week then. */
    public int closeWeek() throws IllegalStateException {
        if (week >= LAST_WEEK && term >= LAST_TERM) {
            throw new IllegalStateException("the last term ends with this week");
        }
        if (week >= LAST_WEEK) {
            endTerm();
            week = 0;
            term++;
        } else {
            week++;
        }
        // Late fees come last: those of a new term's first week belong to the new term.
        chargeLateFees();
        return week;
    }

    // ---- what there is

    /** Returns the week. */
    public int week() {
        return week;
    }

    /** Returns the term, from 0. */
    public int term() {
        return term;
    }

    /** Returns how many credits a student has, of courses that are not dropped. */
    public int credits(int student) throws IndexOutOfBoundsException {
        return studentAt(student).courses.total();
    }

    /** Returns all charges of a kind of a student. */
    public int charged(int student, int kind) throws IndexOutOfBoundsException, IllegalArgumentException {
        Student one = studentAt(student);
        if (!isWithin(kind, TUITION, HOUSING)) {
            throw new IllegalArgumentException("no such kind");
        }
        return chargesOf(one, 1 << kind);
    }

    /** Returns what is sponsored of the charges of a student. */
    public int sponsored(int student) throws IndexOutOfBoundsException {
        return sponsorPart(studentAt(student));
    }

    /** Returns how far an award is used. */
    public int used(int student, int award) throws IndexOutOfBoundsException {
        Student one = studentAt(student);
        if (!one.aid.has(award)) {
            throw new IndexOutOfBoundsException("no such award");
        }
        one.aid.cover(unsponsored(one), one.need);
        return one.aid.useOf(award);
    }

    /** Returns the amount of an award, less what was given back. */
    public int amountOf(int student, int award) throws IndexOutOfBoundsException {
        Student one = studentAt(student);
        if (!one.aid.has(award)) {
            throw new IndexOutOfBoundsException("no such award");
        }
        return one.aid.sumOf(award);
    }

    /** Returns what a student has paid in this term, a credit of the term before counted. */
    public int paid(int student) throws IndexOutOfBoundsException {
        return studentAt(student).paidSum;
    }

    /** Returns what a student owes; below 0 for a credit. */
    public int owed(int student) throws IndexOutOfBoundsException {
        return balanceOf(studentAt(student));
    }

    /** Tells whether a student has a hold: it owes more than the limit. */
    public boolean hasHold(int student) throws IndexOutOfBoundsException {
        return balanceOf(studentAt(student)) > holdLimit;
    }

    // ---- how it is found

    private static boolean isWithin(int number, int least, int most) {
        return number >= least && number <= most;
    }

    private Student studentAt(int student) {
        Student one = student >= 0 && student < students.length ? students[student] : null;
        if (one == null) {
            throw new IndexOutOfBoundsException("no such student");
        }
        return one;
    }

    /** The weeks of all terms are numbered through, as plans go on in later terms. */
    private int weekNumber() {
        return term * WEEKS + week;
    }

    /** Answers -1 for a level that there is not. */
    private static int placeOfRate(int level, boolean isResident) {
        if (level < 0 || level > LAST_LEVEL) {
            return -1;
        }
        return 2 * level + (isResident ? 1 : 0);
    }

    private int rateAt(int place) {
        return place >= 0 && place < rates.length ? rates[place] : 0;
    }

    private int shareNow() {
        return week >= 0 && week < shares.length ? shares[week] : 0;
    }

    private int priceOf(int credits, int rate) {
        if (credits <= bandFrom) {
            return credits * rate;
        }
        if (credits <= bandTo) {
            return bandFrom * rate;
        }
        return (bandFrom + credits - bandTo) * rate;
    }

    private int dropCourse(Student one, int course) {
        int rate = rateAt(placeOfRate(one.level, one.isResident));
        int ahead = priceOf(one.courses.total(), rate);
        one.courses.remove(course);
        int behind = priceOf(one.courses.total(), rate);
        int kept = (ahead - behind) * shareNow() / 100;
        one.courses.keptSum += kept;
        return kept;
    }

    private int aidToGiveBack(int awarded) {
        if (week >= WEEK_THAT_EARNS_AID) {
            return 0;
        }
        return awarded - awarded * week / WEEKS;
    }

    /** The sum of a student's charges whose kinds have their bit in a set. */
    private int chargesOf(Student one, int kinds) {
        int sum = 0;
        if ((kinds & TUITION_BIT) != 0) {
            int rate = rateAt(placeOfRate(one.level, one.isResident));
            sum += priceOf(one.courses.total(), rate) + one.courses.keptSum;
        }
        if ((kinds & FEES_BIT) != 0) {
            sum += one.fees;
        }
        if ((kinds & HOUSING_BIT) != 0) {
            sum += one.housing;
        }
        return sum;
    }

    private int sponsorPart(Student one) {
        return Math.min(chargesOf(one, one.sponsorKinds), one.sponsorLimit);
    }

    private int unsponsored(Student one) {
        return chargesOf(one, ALL_KINDS) - sponsorPart(one);
    }

    private int balanceOf(Student one) {
        int left = unsponsored(one);
        return left - one.aid.cover(left, one.need) - one.paidSum;
    }

    private void endTerm() {
        for (int i = 0; i + 1 < STUDENTS; i += FAMILY) {
            Student one = studentAt(i);
            Student other = studentAt(i + 1);
            int balance = balanceOf(one);
            int otherBalance = balanceOf(other);
            int carried = carriedTo(balance, otherBalance) - carriedTo(otherBalance, balance);
            one.beginTerm(balance - carried);
            other.beginTerm(otherBalance + carried);
        }
    }

    /** What one who owes gets of the credit of another: 0 if it owes nothing, or there is no credit. */
    private static int carriedTo(int balance, int otherBalance) {
        return balance > 0 && otherBalance < 0 ? Math.min(balance, -otherBalance) : 0;
    }

    private void chargeLateFees() {
        for (int i = 0; i < STUDENTS; i++) {
            Student one = studentAt(i);
            if (one.instalments.isLateAt(weekNumber())) {
                one.fees += lateFee;
            }
        }
    }

    /** A student with all that it has in this term, and the plan that outlives the term. */
    private static final class Student {
        final Courses courses = new Courses();
        final Aid aid = new Aid();
        final Instalments instalments = new Instalments();
        int level = 0;
        boolean isResident = true;
        int need = 0;
        int fees = 0;
        int housing = 0;
        int sponsorKinds = 0;
        int sponsorLimit = 0;
        int paidSum = 0;

        void beginTerm(int balance) {
            courses.clear();
            aid.clear();
            sponsorKinds = 0;
            sponsorLimit = 0;
            housing = 0;
            fees = Math.max(balance, 0);
            paidSum = Math.max(-balance, 0);
        }
    }

    /** The courses of a student in a term: their credits, 0 for a dropped one and beyond the last. */
    private static final class Courses {
        private final int[] creditsByCourse = new int[MAX_COURSES];
        private int taken = 0;
        int keptSum = 0;

        /** Answers the number of the course, or -1 if no more can be taken. */
        int add(int credits) {
            if (taken < 0 || taken >= creditsByCourse.length) {
                return -1;
            }
            creditsByCourse[taken] = credits;
            taken++;
            return taken - 1;
        }

        boolean has(int course) {
            return course >= 0 && course < taken;
        }

        int creditsOf(int course) {
            return course >= 0 && course < creditsByCourse.length ? creditsByCourse[course] : 0;
        }

        void remove(int course) {
            if (course >= 0 && course < creditsByCourse.length) {
                creditsByCourse[course] = 0;
            }
        }

        int total() {
            int sum = 0;
            for (int i = 0; i < creditsByCourse.length; i++) {
                sum += creditsByCourse[i];
            }
            return sum;
        }

        void clear() {
            Arrays.fill(creditsByCourse, 0);
            taken = 0;
            keptSum = 0;
        }
    }

    /** The awards of a student in a term; the amounts beyond the last are 0. */
    private static final class Aid {
        private final int[] ranks = new int[MAX_AWARDS];
        private final int[] amounts = new int[MAX_AWARDS];
        private final int[] uses = new int[MAX_AWARDS];
        private int many = 0;

        /** Answers the number of the award, or -1 if there can be no more. */
        int add(int rank, int amount) {
            if (many < 0 || many >= MAX_AWARDS) {
                return -1;
            }
            ranks[many] = rank;
            amounts[many] = amount;
            many++;
            return many - 1;
        }

        boolean has(int award) {
            return award >= 0 && award < many;
        }

        int sumOf(int award) {
            return award >= 0 && award < amounts.length ? amounts[award] : 0;
        }

        /** How far the award was used when cover was called last. */
        int useOf(int award) {
            return award >= 0 && award < uses.length ? uses[award] : 0;
        }

        int total() {
            int sum = 0;
            for (int i = 0; i < amounts.length; i++) {
                sum += amounts[i];
            }
            return sum;
        }

        /** Uses the awards for some charges, and answers what they cover of them. */
        int cover(int charges, int need) {
            int left = charges;
            int grantable = need;
            for (int rank = GRANT; rank <= LOAN; rank++) {
                for (int i = 0; i < MAX_AWARDS; i++) {
                    if (ranks[i] == rank) {
                        int most = rank == GRANT ? Math.min(left, grantable) : left;
                        uses[i] = Math.min(amounts[i], most);
                        left -= uses[i];
                        grantable -= rank == GRANT ? uses[i] : 0;
                    }
                }
            }
            return charges - left;
        }

        void takeOff(int sum) {
            int left = sum;
            for (int rank = LOAN; rank >= GRANT; rank--) {
                for (int i = 0; i < MAX_AWARDS; i++) {
                    if (ranks[i] == rank) {
                        int part = Math.min(amounts[i], left);
                        amounts[i] -= part;
                        left -= part;
                    }
                }
            }
        }

        void clear() {
            Arrays.fill(amounts, 0);
            many = 0;
        }
    }

    /** The plan of a student, with no instalments as long as none is made. */
    private static final class Instalments {
        private int madeAt = 0;
        private int many = 0;
        private int first = 0;
        private int each = 0;
        int paidSince = 0;

        void start(int weekNumber, int count, int firstSum, int eachSum) {
            madeAt = weekNumber;
            many = count;
            first = firstSum;
            each = eachSum;
            paidSince = 0;
        }

        /** Whether one falls due at this week's beginning, and too little is paid by then. */
        boolean isLateAt(int weekNumber) {
            int weeks = weekNumber - madeAt;
            int due = weeks / WEEKS_BETWEEN_INSTALMENTS;
            if (weeks % WEEKS_BETWEEN_INSTALMENTS != 0 || due < 1 || due > many) {
                return false;
            }
            return paidSince < first + each * (due - 1);
        }
    }
}
