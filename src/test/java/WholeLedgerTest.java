import java.util.Random;
import java.util.function.Supplier;

/** What the document says of the ledger as a whole, ahead of its promises. */
final class WholeLedgerTest {
    private static final Check CHECK = new Check();

    private static final int RUNS = 400;

    public static void main(String[] args) {
        nothingDerivedIsLeftBehind();
        aDesk();
        everythingCanBeAskedAtAnyTime();
        askingChangesNothing();
        CHECK.end();
    }

    /** The numbers come from fixed seeds, so that each run is the same each time. */
    private static void nothingDerivedIsLeftBehind() {
        CHECK.aheadOfPromises(Terms.WHAT_IT_IS);
        for (int run = 0; run < RUNS; run++) {
            Random numbers = new Random(run);
            Privacyledger x = new Privacyledger();
            x.addPurpose(50, false);
            x.addPurpose(20, true);
            int calls = run % 380;
            for (int call = 0; call < calls; call++) {
                callAtRandom(x, numbers);
            }
            noTraceBelowWhatIsErased("run " + run, x);
            everyTraceComesFromARoot("run " + run, x);
        }
    }

    private static void callAtRandom(Privacyledger x, Random numbers) {
        int subject = numbers.nextInt(4);
        int record = numbers.nextInt(30);
        int source = numbers.nextInt(30);
        int set = 1 + numbers.nextInt(3);
        try {
            switch (numbers.nextInt(14)) {
                case 0: x.add(subject, set); break;
                case 1: case 2: case 3: x.derive(source, set); break;
                case 4: case 5: case 6: x.addSource(record, source); break;
                case 7: x.consent(subject, 1, numbers.nextInt(4) != 0); break;
                case 8: x.hold(subject, record); break;
                case 9: x.close(subject); break;
                case 10: x.passDays(1 + numbers.nextInt(4)); break;
                case 11: if (set == 3) x.request(subject); break;
                case 12: x.erase(); break;
                default: if (set == 3) x.eraseAll();
            }
        } catch (IndexOutOfBoundsException | IllegalArgumentException
                | IllegalStateException refused) {
            // Which calls are refused is for the tests of the promises to tell.
        }
    }

    private static void noTraceBelowWhatIsErased(String run, Privacyledger x) {
        int[] states = new int[x.records()];
        for (int record = 0; record < states.length; record++) {
            states[record] = x.stateOf(record);
        }
        for (int record = 0; record < states.length; record++) {
            int below = x.below(record);
            for (int lower = 0; lower < states.length; lower++) {
                if ((below >> lower & 1) == 1 && states[lower] < states[record]) {
                    CHECK.report(run + ": record " + record + " is in state " + states[record]
                            + ", and " + lower + " below it in state " + states[lower]);
                }
            }
        }
    }

    private static void everyTraceComesFromARoot(String run, Privacyledger x) {
        int[] subjects = new int[x.records()];
        int erased = 0;
        for (int record = 0; record < subjects.length; record++) {
            subjects[record] = x.subjectsOf(record);
            erased |= x.stateOf(record) == Privacyledger.ERASED ? 1 << record : 0;
        }
        CHECK.same(run + ": no case holds what is erased", x.held() & erased, 0);
        for (int subject = 0; subject < 12; subject++) {
            int due = 0;
            for (int record = 0; record < subjects.length; record++) {
                due |= (subjects[record] >> subject & 1) << record;
            }
            due &= ~erased;
            CHECK.same(run + ": traces(" + subject + ")", x.traces(subject), due);
            CHECK.same(run + ": tracesFromRoots(" + subject + ")", x.tracesFromRoots(subject),
                    due);
        }
    }

    /** The calls of a desk in the order in which the document names them. */
    private static void aDesk() {
        CHECK.aheadOfPromises(Terms.DESK);
        Privacyledger x = new Privacyledger();
        CHECK.same("a purpose is set up", x.addPurpose(30, true), 0);
        CHECK.same("consent is given", x.consent(4, 0, true), true);
        CHECK.same("a record is added", x.add(4, 1), 0);
        CHECK.same("a record is derived", x.derive(0, 1), 1);
        CHECK.same("days pass", x.passDays(10), 0);
        CHECK.same("consent is withdrawn", x.consent(4, 0, false), true);
        CHECK.same("both may not be used any more", x.due(), 0b11);
        CHECK.same("erasure is asked for", x.request(4), 2);
        CHECK.same("nothing is erased by that", x.traces(4), 0b11);
        CHECK.same("one record is erased", x.erase(), 1);
        CHECK.same("that one alone", x.traces(4), 0b01);
        CHECK.same("the other one is erased", x.erase(), 0);
        CHECK.same("nothing is left", x.traces(4), 0);
    }

    private static void everythingCanBeAskedAtAnyTime() {
        CHECK.aheadOfPromises(Terms.DESK);
        for (Supplier<Privacyledger> start : Starts.ALL) {
            askAll("at the start", start);
            askAll("after days", () -> {
                Privacyledger x = start.get();
                x.passDays(1000);
                return x;
            });
            askAll("after the erasure", () -> {
                Privacyledger x = start.get();
                x.passDays(1000);
                x.eraseAll();
                return x;
            });
        }
    }

    private static void askAll(String when, Supplier<Privacyledger> start) {
        int purposes = purposesOf(start.get());
        try {
            askOfLedgerAndSubjects(start.get());
            askOfRecords(start.get());
            askOfSubjectsAndPurposes(start.get(), purposes);
            askOfRecordsAndPurposes(start.get(), purposes);
        } catch (RuntimeException thrown) {
            CHECK.report(when + ", something cannot be asked: " + thrown);
        }
    }

    private static int purposesOf(Privacyledger x) {
        int count = 0;
        try {
            while (count < 8) {
                x.setRetention(count, 1);
                count++;
            }
        } catch (IndexOutOfBoundsException none) {
            // The number is the first of no purpose.
        }
        return count;
    }

    private static void askingChangesNothing() {
        CHECK.aheadOfPromises(Terms.DESK);
        for (Supplier<Privacyledger> start : Starts.ALL) {
            CHECK.changesNothing("asking of subjects", start, x -> askOfLedgerAndSubjects(x));
            CHECK.changesNothing("asking of records", start, x -> askOfRecords(x));
        }
    }

    private static void askOfLedgerAndSubjects(Privacyledger x) {
        x.records();
        x.day();
        x.nextEnd();
        x.held();
        x.due();
        for (int subject = 0; subject < 12; subject++) {
            x.consents(subject);
            x.traces(subject);
            x.tracesFromRoots(subject);
        }
    }

    private static void askOfRecords(Privacyledger x) {
        int records = x.records();
        for (int record = 0; record < records; record++) {
            x.stateOf(record);
            x.subjectsOf(record);
            x.below(record);
            x.endOf(record);
            x.whyKept(record);
        }
    }

    private static void askOfSubjectsAndPurposes(Privacyledger x, int purposes) {
        for (int subject = 0; subject < 12; subject++) {
            for (int purpose = 0; purpose < purposes; purpose++) {
                x.daysWithConsent(subject, purpose);
                x.uses(subject, purpose);
            }
        }
    }

    private static void askOfRecordsAndPurposes(Privacyledger x, int purposes) {
        int records = x.records();
        for (int record = 0; record < records; record++) {
            for (int purpose = 0; purpose < purposes; purpose++) {
                x.whyNoUse(record, purpose);
            }
        }
    }
}
