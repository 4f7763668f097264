import java.util.ArrayList;
import java.util.List;
import java.util.Objects;
import java.util.Random;

/**
 * Runs of up to 512 calls, drawn with a fixed seed, on the class and on a second, slower reading of the
 * document that keeps lists of what happened; after each call all that can be seen must be the same.
 */
public final class ModelTest {
    private static final int RUNS = 600;
    private static final int CALLS = 512;

    public static void main(String[] args) {
        int wrong = 0;
        for (int run = 0; run < RUNS && wrong < 5; run++) {
            if (!isRunAsDue(run)) {
                wrong++;
            }
        }
        System.out.println(wrong == 0 ? "ModelTest: " + RUNS + " runs as due" : wrong + " runs went wrong");
        if (wrong != 0) {
            System.exit(1);
        }
    }

    private static boolean isRunAsDue(int run) {
        Random random = new Random(7919L * run + 1);
        Draw draw = new Draw(random, run);
        TermBill real = new TermBill();
        Model model = new Model();
        List<String> calls = new ArrayList<>();
        for (int i = 0; i < CALLS; i++) {
            int[] call = draw.next();
            calls.add(told(call));
            String got = answerOf(() -> callReal(real, call));
            String want = answerOf(() -> callModel(model, call));
            if (!got.equals(want)) {
                return isReported(run, calls, got, want);
            }
            String seen = seenReal(real);
            String due = seenModel(model);
            if (!seen.equals(due)) {
                return isReported(run, calls, seen, due);
            }
        }
        return true;
    }

    private static boolean isReported(int run, List<String> calls, String got, String want) {
        System.out.println("run " + run + ", call " + calls.size() + ": " + calls.get(calls.size() - 1));
        System.out.println("  got " + got);
        System.out.println("  due " + want);
        System.out.println("  behind " + calls.subList(Math.max(0, calls.size() - 12), calls.size() - 1));
        return false;
    }

    private static String told(int[] call) {
        String[] names = {"setRate", "setBand", "setShare", "setFees", "setStudent", "setSponsor", "take", "drop",
            "charge", "award", "pay", "plan", "leave", "closeWeek"};
        return names[call[0]] + "(" + call[1] + ", " + call[2] + ", " + call[3] + ", " + call[4] + ")";
    }

    private interface Call {
        Object run();
    }

    private static String answerOf(Call call) {
        try {
            return Objects.toString(call.run());
        } catch (RuntimeException e) {
            return "throws." + e.getClass().getSimpleName();
        }
    }

    private static Object callReal(TermBill x, int[] c) {
        switch (c[0]) {
            case 0: return x.setRate(c[1], c[2] == 1, c[3]);
            case 1: x.setBand(c[1], c[2]); return "void";
            case 2: return x.setShare(c[1], c[2]);
            case 3: x.setFees(c[1], c[2]); return "void";
            case 4: x.setStudent(c[1], c[2], c[3] == 1, c[4]); return "void";
            case 5: x.setSponsor(c[1], c[2], c[3]); return "void";
            case 6: return x.take(c[1], c[2]);
            case 7: return x.drop(c[1], c[2]);
            case 8: return x.charge(c[1], c[2], c[3]);
            case 9: return x.award(c[1], c[2], c[3]);
            case 10: return x.pay(c[1], c[2]);
            case 11: return x.plan(c[1], c[2]);
            case 12: return x.leave(c[1]);
            default: return x.closeWeek();
        }
    }

    private static Object callModel(Model x, int[] c) {
        switch (c[0]) {
            case 0: return x.setRate(c[1], c[2] == 1, c[3]);
            case 1: x.setBand(c[1], c[2]); return "void";
            case 2: return x.setShare(c[1], c[2]);
            case 3: x.setFees(c[1], c[2]); return "void";
            case 4: x.setStudent(c[1], c[2], c[3] == 1, c[4]); return "void";
            case 5: x.setSponsor(c[1], c[2], c[3]); return "void";
            case 6: return x.take(c[1], c[2]);
            case 7: return x.drop(c[1], c[2]);
            case 8: return x.charge(c[1], c[2], c[3]);
            case 9: return x.award(c[1], c[2], c[3]);
            case 10: return x.pay(c[1], c[2]);
            case 11: return x.plan(c[1], c[2]);
            case 12: return x.leave(c[1]);
            default: return x.closeWeek();
        }
    }

    private static String seenReal(TermBill x) {
        StringBuilder all = new StringBuilder();
        all.append(x.term()).append('/').append(x.week());
        for (int i = 0; i < 4; i++) {
            int s = i;
            all.append(" | ").append(x.credits(s)).append(' ').append(x.charged(s, 0)).append(' ')
                .append(x.charged(s, 1)).append(' ').append(x.charged(s, 2)).append(' ').append(x.sponsored(s))
                .append(' ').append(x.paid(s)).append(' ').append(x.owed(s)).append(' ').append(x.hasHold(s));
            boolean is = true;
            for (int j = 0; j < 7 && is; j++) {
                int award = j;
                String used = answerOf(() -> x.used(s, award));
                all.append(' ').append(used).append(' ').append(answerOf(() -> x.amountOf(s, award)));
                is = !used.startsWith("throws");
            }
        }
        return all.toString();
    }

    private static String seenModel(Model x) {
        StringBuilder all = new StringBuilder();
        all.append(x.weeksGone / 16).append('/').append(x.weeksGone % 16);
        for (Model.Person p : x.people) {
            all.append(" | ").append(x.credits(p)).append(' ').append(x.tuition(p)).append(' ')
                .append(p.fees).append(' ').append(p.housing).append(' ').append(x.sponsored(p))
                .append(' ').append(x.paid(p)).append(' ').append(x.owed(p)).append(' ').append(x.owed(p) > x.limit);
            List<Long> used = x.used(p);
            for (int j = 0; j < used.size(); j++) {
                all.append(' ').append(used.get(j)).append(' ').append(p.awards.get(j).amount);
            }
            all.append(" throws.IndexOutOfBoundsException throws.IndexOutOfBoundsException");
        }
        return all.toString();
    }

    /** Draws calls: most of them good, some at the edges, some wrong. */
    private static final class Draw {
        private final Random random;
        private final int[] weights;
        private final int[] sizes;
        private final boolean isSmall;

        Draw(Random random, int run) {
            this.random = random;
            isSmall = run % 2 == 0;
            int weeks = new int[] {30, 60, 150, 10}[run % 4];
            weights = new int[] {4, 3, 3, 3, 8, 8, 30, 20, 20, 20, 25, 20, run % 3 == 0 ? 1 : 6, weeks};
            sizes = isSmall ? new int[] {1, 7, 150, 3000} : new int[] {10, 5000, 200000, 1000000};
        }

        int[] next() {
            int call = 0;
            int sum = 0;
            for (int weight : weights) {
                sum += weight;
            }
            for (int left = random.nextInt(sum); left >= weights[call]; call++) {
                left -= weights[call];
            }
            return filled(call);
        }

        private int[] filled(int call) {
            int student = in(0, 3);
            switch (call) {
                case 0: return of(call, in(0, 1), random.nextInt(2), isSmall ? in(0, 120) : in(0, 100000), 0);
                case 1: int from = in(1, 30); return of(call, from, in(from < 1 || from > 30 ? 1 : from, 30), 0, 0);
                case 2: return of(call, in(0, 15), in(0, 100), 0, 0);
                case 3: return of(call, isSmall ? in(0, 90) : in(0, 100000), in(0, random.nextBoolean() ? 1000 : 1000000), 0, 0);
                case 4: return of(call, student, in(0, 1), random.nextInt(2), sum(0));
                case 5: return of(call, student, in(0, 7), sum(0), 0);
                case 6: return of(call, student, in(1, 10), 0, 0);
                case 7: return of(call, student, in(0, 7), 0, 0);
                case 8: return of(call, student, in(1, 2), sum(1), 0);
                case 9: return of(call, student, in(0, 2), sum(1), 0);
                case 10: return of(call, student, sum(1), 0, 0);
                case 11: return of(call, student, in(1, 4), 0, 0);
                default: return of(call, student, 0, 0, 0);
            }
        }

        private static int[] of(int... call) {
            return call;
        }

        private int sum(int least) {
            return random.nextInt(30) == 0 ? in(least, 1000000) : in(least, sizes[random.nextInt(sizes.length)]);
        }

        private int in(int least, int most) {
            int dice = random.nextInt(200);
            if (dice < 4) {
                return new int[] {least - 1, most + 1, Integer.MIN_VALUE, Integer.MAX_VALUE}[dice];
            }
            if (dice < 10) {
                return dice % 2 == 0 ? least : most;
            }
            return least + random.nextInt(most - least + 1);
        }
    }

    /** The document read a second time, plainly. */
    private static final class Model {
        static final class Course {
            long credits;
            boolean isDropped;
        }

        static final class Award {
            int rank;
            long amount;
        }

        static final class Person {
            int level = 0;
            boolean isResident = true;
            long need = 0;
            List<Course> courses = new ArrayList<>();
            List<Award> awards = new ArrayList<>();
            List<Long> kept = new ArrayList<>();
            List<Long> payments = new ArrayList<>();
            long fees = 0;
            long housing = 0;
            int kinds = 0;
            long sponsorLimit = 0;
            List<long[]> plan = new ArrayList<>();
            List<Long> paymentsOfPlan = new ArrayList<>();
        }

        final List<Person> people = List.of(new Person(), new Person(), new Person(), new Person());
        final long[][] rates = {{10000, 10000}, {10000, 10000}};
        final long[] table = {0, 0, 100, 100, 100, 100, 100, 100, 100, 100, 100, 100, 100, 100, 100, 100};
        long from = 12;
        long to = 18;
        long lateFee = 2500;
        long limit = 0;
        int weeksGone = 0;

        private Person person(int student) {
            index(student >= 0 && student <= 3);
            return people.get(student);
        }

        private static void index(boolean isGood) {
            if (!isGood) {
                throw new IndexOutOfBoundsException();
            }
        }

        private static void argument(long value, long least, long most) {
            if (value < least || value > most) {
                throw new IllegalArgumentException();
            }
        }

        private static void state(boolean isGood) {
            if (!isGood) {
                throw new IllegalStateException();
            }
        }

        long setRate(int level, boolean isResident, int rate) {
            argument(level, 0, 1);
            argument(rate, 0, 100000);
            long before = rates[level][isResident ? 1 : 0];
            rates[level][isResident ? 1 : 0] = rate;
            return before;
        }

        void setBand(int newFrom, int newTo) {
            argument(newFrom, 1, 30);
            argument(newTo, newFrom, 30);
            from = newFrom;
            to = newTo;
        }

        long setShare(int week, int share) {
            argument(week, 0, 15);
            argument(share, 0, 100);
            long before = table[week];
            table[week] = share;
            return before;
        }

        void setFees(int fee, int newLimit) {
            argument(fee, 0, 100000);
            argument(newLimit, 0, 1000000);
            lateFee = fee;
            limit = newLimit;
        }

        void setStudent(int student, int level, boolean isResident, int need) {
            Person p = person(student);
            argument(level, 0, 1);
            argument(need, 0, 1000000);
            p.level = level;
            p.isResident = isResident;
            p.need = need;
        }

        void setSponsor(int student, int kinds, int sponsorLimit) {
            Person p = person(student);
            argument(kinds, 0, 7);
            argument(sponsorLimit, 0, 1000000);
            p.kinds = kinds;
            p.sponsorLimit = sponsorLimit;
        }

        long take(int student, int credits) {
            Person p = person(student);
            argument(credits, 1, 10);
            state(p.courses.size() < 8);
            Course course = new Course();
            course.credits = credits;
            p.courses.add(course);
            return p.courses.size() - 1;
        }

        long drop(int student, int course) {
            Person p = person(student);
            index(course >= 0 && course < p.courses.size());
            state(!p.courses.get(course).isDropped);
            return dropped(p, p.courses.get(course));
        }

        private long dropped(Person p, Course course) {
            long ahead = price(p);
            course.isDropped = true;
            long behind = price(p);
            long kept = Math.floorDiv((ahead - behind) * table[weeksGone % 16], 100L);
            p.kept.add(kept);
            return kept;
        }

        long charge(int student, int kind, int amount) {
            Person p = person(student);
            argument(kind, 1, 2);
            argument(amount, 1, 1000000);
            p.fees += kind == 1 ? amount : 0;
            p.housing += kind == 2 ? amount : 0;
            return kind == 1 ? p.fees : p.housing;
        }

        long award(int student, int rank, int amount) {
            Person p = person(student);
            argument(rank, 0, 2);
            argument(amount, 1, 1000000);
            state(p.awards.size() < 6);
            Award award = new Award();
            award.rank = rank;
            award.amount = amount;
            p.awards.add(award);
            return p.awards.size() - 1;
        }

        long pay(int student, int amount) {
            Person p = person(student);
            argument(amount, 1, 1000000);
            p.payments.add((long) amount);
            p.paymentsOfPlan.add((long) amount);
            return owed(p);
        }

        long plan(int student, int many) {
            Person p = person(student);
            argument(many, 1, 4);
            long owed = owed(p);
            state(owed > 0);
            p.plan.clear();
            p.paymentsOfPlan.clear();
            for (int i = 0; i < many; i++) {
                long sum = i == 0 ? owed / many + owed % many : owed / many;
                p.plan.add(new long[] {weeksGone + 2 * (i + 1), sum});
            }
            return p.plan.get(0)[1];
        }

        long leave(int student) {
            Person p = person(student);
            for (Course course : p.courses) {
                if (!course.isDropped) {
                    dropped(p, course);
                }
            }
            long w = weeksGone % 16;
            long s = 0;
            for (Award award : p.awards) {
                s += award.amount;
            }
            long back = w >= 10 ? 0 : s - Math.floorDiv(s * w, 16L);
            long left = back;
            for (Award award : byRanks(p, 2, 1, 0)) {
                long part = Math.min(left, award.amount);
                award.amount -= part;
                left -= part;
            }
            return back;
        }

        long closeWeek() {
            state(weeksGone < 159);
            if (weeksGone % 16 == 15) {
                endFamily(people.get(0), people.get(1));
                endFamily(people.get(2), people.get(3));
            }
            weeksGone++;
            for (Person p : people) {
                long due = 0;
                boolean isDue = false;
                for (long[] instalment : p.plan) {
                    due += instalment[0] <= weeksGone ? instalment[1] : 0;
                    isDue |= instalment[0] == weeksGone;
                }
                if (isDue && sum(p.paymentsOfPlan) < due) {
                    p.fees += lateFee;
                }
            }
            return weeksGone % 16;
        }

        private void endFamily(Person a, Person b) {
            long ofA = owed(a);
            long ofB = owed(b);
            if (ofA > 0 && ofB < 0) {
                long carried = Math.min(ofA, -ofB);
                ofA -= carried;
                ofB += carried;
            } else if (ofB > 0 && ofA < 0) {
                long carried = Math.min(ofB, -ofA);
                ofB -= carried;
                ofA += carried;
            }
            begin(a, ofA);
            begin(b, ofB);
        }

        private void begin(Person p, long owed) {
            p.courses.clear();
            p.kept.clear();
            p.awards.clear();
            p.payments.clear();
            p.kinds = 0;
            p.sponsorLimit = 0;
            p.housing = 0;
            p.fees = owed > 0 ? owed : 0;
            if (owed < 0) {
                p.payments.add(-owed);
            }
        }

        private static long sum(List<Long> sums) {
            long all = 0;
            for (long each : sums) {
                all += each;
            }
            return all;
        }

        long credits(Person p) {
            long all = 0;
            for (Course course : p.courses) {
                all += course.isDropped ? 0 : course.credits;
            }
            return all;
        }

        /** Counted credit by credit: those behind the band's beginning up to its end are free. */
        private long price(Person p) {
            long rate = rates[p.level][p.isResident ? 1 : 0];
            long price = 0;
            for (long credit = 1; credit <= credits(p); credit++) {
                price += credit <= from || credit > to ? rate : 0;
            }
            return price;
        }

        long tuition(Person p) {
            return price(p) + sum(p.kept);
        }

        long paid(Person p) {
            return sum(p.payments);
        }

        long sponsored(Person p) {
            long[] charges = {tuition(p), p.fees, p.housing};
            long all = 0;
            for (int kind = 0; kind < 3; kind++) {
                all += (p.kinds & 1 << kind) != 0 ? charges[kind] : 0;
            }
            return Math.min(all, p.sponsorLimit);
        }

        private List<Award> byRanks(Person p, int... ranks) {
            List<Award> sorted = new ArrayList<>();
            for (int rank : ranks) {
                for (Award award : p.awards) {
                    if (award.rank == rank) {
                        sorted.add(award);
                    }
                }
            }
            return sorted;
        }

        List<Long> used(Person p) {
            long left = tuition(p) + p.fees + p.housing - sponsored(p);
            long need = p.need;
            List<Award> order = byRanks(p, 0, 1, 2);
            List<Long> uses = new ArrayList<>();
            for (int i = 0; i < p.awards.size(); i++) {
                uses.add(0L);
            }
            for (Award award : order) {
                long use = Math.min(award.amount, left);
                if (award.rank == 0) {
                    use = Math.min(use, need);
                    need -= use;
                }
                left -= use;
                uses.set(p.awards.indexOf(award), use);
            }
            return uses;
        }

        long owed(Person p) {
            return tuition(p) + p.fees + p.housing - sponsored(p) - sum(used(p)) - paid(p);
        }
    }
}
