import java.util.ArrayList;
import java.util.List;
import java.util.function.Consumer;
import java.util.function.Supplier;
import java.util.function.ToLongFunction;

/**
 * Finds out whether a call has changed a ledger: asks one ledger with that call and one without it
 * all that can be asked, also by calls that change it themselves, since some of what a ledger holds
 * (which case holds what, how often which record was used, its sources) shows in these alone.
 *
 * <p>The questions come in groups of fewer than 250 calls, each for a ledger of its own, since
 * nothing is promised after the 512th call.
 */
final class Everything {
    private record Question(String call, ToLongFunction<Privacyledger> ask) {
    }

    private static final List<List<Question>> GROUPS = List.of(standing(), counts(), reasons(),
            usesOfRecords(), cases(), sources(1, 22), sources(22, 30), whatFollows());

    private Everything() {
    }

    /** Tells the first answer that differs with the call; null if none does. */
    static String difference(Supplier<Privacyledger> start, Consumer<Privacyledger> call) {
        return difference(start, () -> {
            Privacyledger x = start.get();
            run(x, call);
            return x;
        });
    }

    /** Tells the first answer that differs between two ledgers; null if none does. */
    static String difference(Supplier<Privacyledger> one, Supplier<Privacyledger> other) {
        for (List<Question> group : GROUPS) {
            Privacyledger first = one.get();
            Privacyledger second = other.get();
            for (Question question : group) {
                String due = answer(first, question);
                String got = answer(second, question);
                if (!got.equals(due)) {
                    return question.call + " answers " + got + " instead of " + due;
                }
            }
        }
        return null;
    }

    private static void run(Privacyledger x, Consumer<Privacyledger> call) {
        try {
            call.accept(x);
        } catch (RuntimeException refused) {
            // Whether it is the right one is for Check to tell.
        }
    }

    private static String answer(Privacyledger x, Question question) {
        try {
            return Long.toString(question.ask.applyAsLong(x));
        } catch (RuntimeException thrown) {
            return thrown.getClass().getName();
        }
    }

    private static List<Question> standing() {
        List<Question> all = new ArrayList<>();
        all.add(new Question("records()", x -> x.records()));
        all.add(new Question("day()", x -> x.day()));
        all.add(new Question("nextEnd()", x -> x.nextEnd()));
        all.add(new Question("held()", x -> x.held()));
        all.add(new Question("due()", x -> x.due()));
        for (int each = 0; each < 12; each++) {
            int subject = each;
            all.add(new Question("consents(" + subject + ")", x -> x.consents(subject)));
            all.add(new Question("traces(" + subject + ")", x -> x.traces(subject)));
            all.add(new Question("tracesFromRoots(" + subject + ")",
                    x -> x.tracesFromRoots(subject)));
        }
        for (int each = 0; each < 30; each++) {
            int record = each;
            all.add(new Question("stateOf(" + record + ")", x -> x.stateOf(record)));
            all.add(new Question("subjectsOf(" + record + ")", x -> x.subjectsOf(record)));
            all.add(new Question("below(" + record + ")", x -> x.below(record)));
            all.add(new Question("endOf(" + record + ")", x -> x.endOf(record)));
            all.add(new Question("whyKept(" + record + ")", x -> x.whyKept(record)));
        }
        return all;
    }

    private static List<Question> counts() {
        List<Question> all = new ArrayList<>();
        for (int each = 0; each < 12 * 8; each++) {
            int subject = each / 8;
            int purpose = each % 8;
            String arguments = "(" + subject + ", " + purpose + ")";
            all.add(new Question("daysWithConsent" + arguments,
                    x -> x.daysWithConsent(subject, purpose)));
            all.add(new Question("uses" + arguments, x -> x.uses(subject, purpose)));
        }
        return all;
    }

    private static List<Question> reasons() {
        List<Question> all = new ArrayList<>();
        for (int each = 0; each < 30 * 8; each++) {
            int record = each / 8;
            int purpose = each % 8;
            all.add(new Question("whyNoUse(" + record + ", " + purpose + ")",
                    x -> x.whyNoUse(record, purpose)));
        }
        return all;
    }

    private static List<Question> usesOfRecords() {
        List<Question> all = new ArrayList<>();
        for (int each = 0; each < 30 * 8; each++) {
            int record = each / 8;
            int purpose = each % 8;
            all.add(new Question("use(" + record + ", " + purpose + ")",
                    x -> x.use(record, purpose)));
        }
        return all;
    }

    private static List<Question> cases() {
        List<Question> all = new ArrayList<>();
        for (int each = 0; each < 6 * 30; each++) {
            int holder = each / 30;
            int record = each % 30;
            all.add(new Question("hold(" + holder + ", " + record + ")",
                    x -> x.hold(holder, record)));
        }
        for (int each = 0; each < 6; each++) {
            int holder = each;
            all.add(new Question("close(" + holder + ")", x -> x.close(holder)));
        }
        return all;
    }

    private static List<Question> sources(int from, int below) {
        List<Question> all = new ArrayList<>();
        for (int upper = from; upper < below; upper++) {
            for (int lower = 0; lower < upper; lower++) {
                int record = upper;
                int source = lower;
                all.add(new Question("addSource(" + record + ", " + source + ")",
                        x -> x.addSource(record, source)));
            }
        }
        return all;
    }

    private static List<Question> whatFollows() {
        List<Question> all = new ArrayList<>();
        for (int each = 0; each < 31; each++) {
            all.add(new Question("erase()", x -> x.erase()));
        }
        all.add(new Question("derive(0, 1)", x -> x.derive(0, 1)));
        all.add(new Question("add(11, 1)", x -> x.add(11, 1)));
        for (int each = 0; each < 8; each++) {
            int purpose = each;
            all.add(new Question("consent(0, " + purpose + ", true)",
                    x -> x.consent(0, purpose, true) ? 1 : 0));
            all.add(new Question("setRetention(" + purpose + ", 7)",
                    x -> x.setRetention(purpose, 7)));
        }
        all.add(new Question("due()", x -> x.due()));
        all.add(new Question("passDays(1)", x -> x.passDays(1)));
        all.add(new Question("passDays(1000)", x -> x.passDays(1000)));
        all.add(new Question("daysWithConsent(0, 0)", x -> x.daysWithConsent(0, 0)));
        all.add(new Question("eraseAll()", x -> x.eraseAll()));
        all.add(new Question("addPurpose(9, true)", x -> x.addPurpose(9, true)));
        all.add(new Question("add(11, 128)", x -> x.add(11, 128)));
        return all;
    }
}
