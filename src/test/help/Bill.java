import java.util.ArrayList;
import java.util.List;
import java.util.function.Function;

/**
 * A TermBill that counts its calls, as the document tells nothing of those behind the 512th, and remembers
 * them, so that a twin can be made: a new object brought to the same state.
 */
final class Bill {
    static final int MOST_CALLS = 512;

    /** A call that changed the object, or one that was refused and so must have changed nothing. */
    private record Made(Function<TermBill, ?> call, boolean isRefused) {
    }

    private final TermBill ledger = new TermBill();
    private final List<Made> made = new ArrayList<>();
    private int calls = 0;

    Bill twin() {
        return twin(true);
    }

    Bill twinWithoutRefusedCalls() {
        return twin(false);
    }

    private Bill twin(boolean hasRefusedCalls) {
        Bill twin = new Bill();
        for (Made each : made) {
            if (!each.isRefused) {
                twin.change(each.call);
            } else if (hasRefusedCalls) {
                Probe.answer(() -> twin.ask(each.call));
            }
        }
        return twin;
    }

    int calls() {
        return calls;
    }

    private <T> T ask(Function<TermBill, T> call) {
        if (calls >= MOST_CALLS) {
            throw new AssertionError("a test makes more than " + MOST_CALLS + " calls on one object");
        }
        calls++;
        try {
            return call.apply(ledger);
        } catch (RuntimeException e) {
            made.add(new Made(call, true));
            throw e;
        }
    }

    private <T> T change(Function<TermBill, T> call) {
        T answer = ask(call);
        made.add(new Made(call, false));
        return answer;
    }

    int setRate(int level, boolean isResident, int rate) {
        return change(x -> x.setRate(level, isResident, rate));
    }

    void setBand(int from, int to) {
        change(x -> {
            x.setBand(from, to);
            return true;
        });
    }

    int setShare(int week, int share) {
        return change(x -> x.setShare(week, share));
    }

    void setFees(int fee, int limit) {
        change(x -> {
            x.setFees(fee, limit);
            return true;
        });
    }

    void setStudent(int student, int level, boolean isResident, int need) {
        change(x -> {
            x.setStudent(student, level, isResident, need);
            return true;
        });
    }

    void setSponsor(int student, int kinds, int limit) {
        change(x -> {
            x.setSponsor(student, kinds, limit);
            return true;
        });
    }

    int take(int student, int credits) {
        return change(x -> x.take(student, credits));
    }

    int drop(int student, int course) {
        return change(x -> x.drop(student, course));
    }

    int charge(int student, int kind, int amount) {
        return change(x -> x.charge(student, kind, amount));
    }

    int award(int student, int rank, int amount) {
        return change(x -> x.award(student, rank, amount));
    }

    int pay(int student, int amount) {
        return change(x -> x.pay(student, amount));
    }

    int plan(int student, int many) {
        return change(x -> x.plan(student, many));
    }

    int leave(int student) {
        return change(x -> x.leave(student));
    }

    int closeWeek() {
        return change(x -> x.closeWeek());
    }

    int week() {
        return ask(x -> x.week());
    }

    int term() {
        return ask(x -> x.term());
    }

    int credits(int student) {
        return ask(x -> x.credits(student));
    }

    int charged(int student, int kind) {
        return ask(x -> x.charged(student, kind));
    }

    int sponsored(int student) {
        return ask(x -> x.sponsored(student));
    }

    int used(int student, int award) {
        return ask(x -> x.used(student, award));
    }

    int amountOf(int student, int award) {
        return ask(x -> x.amountOf(student, award));
    }

    int paid(int student) {
        return ask(x -> x.paid(student));
    }

    int owed(int student) {
        return ask(x -> x.owed(student));
    }

    boolean hasHold(int student) {
        return ask(x -> x.hasHold(student));
    }

    // ---- several calls at once

    void close(int weeks) {
        for (int i = 0; i < weeks; i++) {
            closeWeek();
        }
    }

    void takeAll(int student, int... credits) {
        for (int each : credits) {
            take(student, each);
        }
    }
}
