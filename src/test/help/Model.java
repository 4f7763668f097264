import java.util.ArrayList;
import java.util.List;

/** The document read a second time, plainly. */
final class Model {
    static final class Course {
        long credits;
        boolean isDropped;
    }

    static final class Award {
        int rank;
        long amount;
    }

    static final class Person {
        int level = 0;
        boolean isResident = true;
        long need = 0;
        List<Course> courses = new ArrayList<>();
        List<Award> awards = new ArrayList<>();
        List<Long> kept = new ArrayList<>();
        List<Long> payments = new ArrayList<>();
        long fees = 0;
        long housing = 0;
        int kinds = 0;
        long sponsorLimit = 0;
        List<long[]> plan = new ArrayList<>();
        List<Long> paymentsOfPlan = new ArrayList<>();
    }

    final List<Person> people = List.of(new Person(), new Person(), new Person(), new Person());
    final long[][] rates = {{10000, 10000}, {10000, 10000}};
    final long[] table = {0, 0, 100, 100, 100, 100, 100, 100, 100, 100, 100, 100, 100, 100, 100, 100};
    long from = 12;
    long to = 18;
    long lateFee = 2500;
    long limit = 0;
    int weeksGone = 0;

    private Person person(int student) {
        index(student >= 0 && student <= 3);
        return people.get(student);
    }

    private static void index(boolean isGood) {
        if (!isGood) {
            throw new IndexOutOfBoundsException();
        }
    }

    private static void argument(long value, long least, long most) {
        if (value < least || value > most) {
            throw new IllegalArgumentException();
        }
    }

    private static void state(boolean isGood) {
        if (!isGood) {
            throw new IllegalStateException();
        }
    }

    long setRate(int level, boolean isResident, int rate) {
        argument(level, 0, 1);
        argument(rate, 0, 100000);
        long before = rates[level][isResident ? 1 : 0];
        rates[level][isResident ? 1 : 0] = rate;
        return before;
    }

    void setBand(int newFrom, int newTo) {
        argument(newFrom, 1, 30);
        argument(newTo, newFrom, 30);
        from = newFrom;
        to = newTo;
    }

    long setShare(int week, int share) {
        argument(week, 0, 15);
        argument(share, 0, 100);
        long before = table[week];
        table[week] = share;
        return before;
    }

    void setFees(int fee, int newLimit) {
        argument(fee, 0, 100000);
        argument(newLimit, 0, 1000000);
        lateFee = fee;
        limit = newLimit;
    }

    void setStudent(int student, int level, boolean isResident, int need) {
        Person p = person(student);
        argument(level, 0, 1);
        argument(need, 0, 1000000);
        p.level = level;
        p.isResident = isResident;
        p.need = need;
    }

    void setSponsor(int student, int kinds, int sponsorLimit) {
        Person p = person(student);
        argument(kinds, 0, 7);
        argument(sponsorLimit, 0, 1000000);
        p.kinds = kinds;
        p.sponsorLimit = sponsorLimit;
    }

    long take(int student, int credits) {
        Person p = person(student);
        argument(credits, 1, 10);
        state(p.courses.size() < 8);
        Course course = new Course();
        course.credits = credits;
        p.courses.add(course);
        return p.courses.size() - 1;
    }

    long drop(int student, int course) {
        Person p = person(student);
        index(course >= 0 && course < p.courses.size());
        state(!p.courses.get(course).isDropped);
        return dropped(p, p.courses.get(course));
    }

    private long dropped(Person p, Course course) {
        long ahead = price(p);
        course.isDropped = true;
        long behind = price(p);
        long kept = Math.floorDiv((ahead - behind) * table[weeksGone % 16], 100L);
        p.kept.add(kept);
        return kept;
    }

    long charge(int student, int kind, int amount) {
        Person p = person(student);
        argument(kind, 1, 2);
        argument(amount, 1, 1000000);
        p.fees += kind == 1 ? amount : 0;
        p.housing += kind == 2 ? amount : 0;
        return kind == 1 ? p.fees : p.housing;
    }

    long award(int student, int rank, int amount) {
        Person p = person(student);
        argument(rank, 0, 2);
        argument(amount, 1, 1000000);
        state(p.awards.size() < 6);
        Award award = new Award();
        award.rank = rank;
        award.amount = amount;
        p.awards.add(award);
        return p.awards.size() - 1;
    }

    long pay(int student, int amount) {
        Person p = person(student);
        argument(amount, 1, 1000000);
        p.payments.add((long) amount);
        p.paymentsOfPlan.add((long) amount);
        return owed(p);
    }

    long plan(int student, int many) {
        Person p = person(student);
        argument(many, 1, 4);
        long owed = owed(p);
        state(owed > 0);
        p.plan.clear();
        p.paymentsOfPlan.clear();
        for (int i = 0; i < many; i++) {
            long sum = i == 0 ? owed / many + owed % many : owed / many;
            p.plan.add(new long[] {weeksGone + 2 * (i + 1), sum});
        }
        return p.plan.get(0)[1];
    }

    long leave(int student) {
        Person p = person(student);
        for (Course course : p.courses) {
            if (!course.isDropped) {
                dropped(p, course);
            }
        }
        long w = weeksGone % 16;
        long s = 0;
        for (Award award : p.awards) {
            s += award.amount;
        }
        long back = w >= 10 ? 0 : s - Math.floorDiv(s * w, 16L);
        long left = back;
        for (Award award : byRanks(p, 2, 1, 0)) {
            long part = Math.min(left, award.amount);
            award.amount -= part;
            left -= part;
        }
        return back;
    }

    long closeWeek() {
        state(weeksGone < 159);
        if (weeksGone % 16 == 15) {
            endFamily(people.get(0), people.get(1));
            endFamily(people.get(2), people.get(3));
        }
        weeksGone++;
        for (Person p : people) {
            long due = 0;
            boolean isDue = false;
            for (long[] instalment : p.plan) {
                due += instalment[0] <= weeksGone ? instalment[1] : 0;
                isDue |= instalment[0] == weeksGone;
            }
            if (isDue && sum(p.paymentsOfPlan) < due) {
                p.fees += lateFee;
            }
        }
        return weeksGone % 16;
    }

    private void endFamily(Person a, Person b) {
        long ofA = owed(a);
        long ofB = owed(b);
        if (ofA > 0 && ofB < 0) {
            long carried = Math.min(ofA, -ofB);
            ofA -= carried;
            ofB += carried;
        } else if (ofB > 0 && ofA < 0) {
            long carried = Math.min(ofB, -ofA);
            ofB -= carried;
            ofA += carried;
        }
        begin(a, ofA);
        begin(b, ofB);
    }

    private void begin(Person p, long owed) {
        p.courses.clear();
        p.kept.clear();
        p.awards.clear();
        p.payments.clear();
        p.kinds = 0;
        p.sponsorLimit = 0;
        p.housing = 0;
        p.fees = owed > 0 ? owed : 0;
        if (owed < 0) {
            p.payments.add(-owed);
        }
    }

    int week() {
        return weeksGone % 16;
    }

    int term() {
        return weeksGone / 16;
    }

    long credits(int student) {
        return credits(person(student));
    }

    long charged(int student, int kind) {
        Person p = person(student);
        argument(kind, 0, 2);
        return charges(p)[kind];
    }

    long sponsored(int student) {
        return sponsored(person(student));
    }

    long used(int student, int award) {
        List<Long> uses = used(person(student));
        index(award >= 0 && award < uses.size());
        return uses.get(award);
    }

    long amountOf(int student, int award) {
        List<Award> awards = person(student).awards;
        index(award >= 0 && award < awards.size());
        return awards.get(award).amount;
    }

    long paid(int student) {
        return sum(person(student).payments);
    }

    long owed(int student) {
        return owed(person(student));
    }

    boolean hasHold(int student) {
        return owed(person(student)) > limit;
    }

    /** Sums at which an answer can turn: what a student owes, what aid and sponsors reach, what is short. */
    List<Long> sumsOfNote(int student) {
        Person p = person(student);
        long[] charges = charges(p);
        long all = charges[0] + charges[1] + charges[2];
        long grants = 0;
        for (Award award : p.awards) {
            grants += award.rank == 0 ? award.amount : 0;
        }
        long shortage = -sum(p.paymentsOfPlan);
        boolean isNext = true;
        for (long[] instalment : p.plan) {
            shortage += isNext ? instalment[1] : 0;
            isNext = instalment[0] <= weeksGone;
        }
        return List.of(owed(p), -owed(p), charges[0], charges[0] + charges[2], all, all - sponsored(p), grants,
            shortage, owed(people.get(student ^ 1)), -owed(people.get(student ^ 1)));
    }

    private static long sum(List<Long> sums) {
        long all = 0;
        for (long each : sums) {
            all += each;
        }
        return all;
    }

    private long credits(Person p) {
        long all = 0;
        for (Course course : p.courses) {
            all += course.isDropped ? 0 : course.credits;
        }
        return all;
    }

    /** Counted credit by credit: those behind the band's beginning up to its end are free. */
    private long price(Person p) {
        long rate = rates[p.level][p.isResident ? 1 : 0];
        long price = 0;
        for (long credit = 1; credit <= credits(p); credit++) {
            price += credit <= from || credit > to ? rate : 0;
        }
        return price;
    }

    private long tuition(Person p) {
        return price(p) + sum(p.kept);
    }

    private long[] charges(Person p) {
        return new long[] {tuition(p), p.fees, p.housing};
    }

    private long sponsored(Person p) {
        long[] charges = charges(p);
        long all = 0;
        for (int kind = 0; kind < 3; kind++) {
            all += (p.kinds & 1 << kind) != 0 ? charges[kind] : 0;
        }
        return Math.min(all, p.sponsorLimit);
    }

    private List<Award> byRanks(Person p, int... ranks) {
        List<Award> sorted = new ArrayList<>();
        for (int rank : ranks) {
            for (Award award : p.awards) {
                if (award.rank == rank) {
                    sorted.add(award);
                }
            }
        }
        return sorted;
    }

    private List<Long> used(Person p) {
        long left = tuition(p) + p.fees + p.housing - sponsored(p);
        long need = p.need;
        List<Award> order = byRanks(p, 0, 1, 2);
        List<Long> uses = new ArrayList<>();
        for (int i = 0; i < p.awards.size(); i++) {
            uses.add(0L);
        }
        for (Award award : order) {
            long use = Math.min(award.amount, left);
            if (award.rank == 0) {
                use = Math.min(use, need);
                need -= use;
            }
            left -= use;
            uses.set(p.awards.indexOf(award), use);
        }
        return uses;
    }

    private long owed(Person p) {
        return tuition(p) + p.fees + p.housing - sponsored(p) - sum(used(p)) - sum(p.payments);
    }
}
