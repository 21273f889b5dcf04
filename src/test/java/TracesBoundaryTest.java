import java.util.function.Supplier;

/** Promises 28 to 30 at and beside each boundary that the document names. */
final class TracesBoundaryTest {
    private static final Check CHECK = new Check();

    private static final Supplier<Privacyledger> EMPTY = Starts.EMPTY;
    private static final Supplier<Privacyledger> MIXED = Starts.MIXED;
    private static final Supplier<Privacyledger> FULL = Starts.FULL;

    private static final int ALL_RECORDS = (1 << 30) - 1;

    private static final String TRACES =
            "Returns the records that are of a subject and not erased.";
    private static final String FROM_ROOTS =
            "Returns the same, found by going down from all root records of the subject.";
    private static final String DUE = "Returns the set of the present records that are due now,"
            + " though no day has begun since they are.";

    public static void main(String[] args) {
        subjectOfTraces();
        tracesInEachState();
        tracesFromNoneToAll();
        subjectOfTracesFromRoots();
        fromOneRootToSeveral();
        downThroughErasedOnes();
        theSameAsTraces();
        nothingDue();
        dueByRetention();
        dueByConsent();
        dueButNotPresent();
        allDue();
        CHECK.end();
    }

    private static void subjectOfTraces() {
        CHECK.promise(28, "`subject`: 0 to 11", "Returns the set of records.",
                "Throws `IndexOutOfBoundsException` if there is no such subject");
        for (Supplier<Privacyledger> start : Starts.ALL) {
            CHECK.refusesBeside(12, "traces", start, (x, subject) -> x.traces(subject));
        }
        for (int subject = 0; subject < 12; subject++) {
            int due = 1 << subject | 1 << subject + 12 | (subject < 6 ? 1 << subject + 24 : 0);
            CHECK.same("traces(" + subject + ")", FULL.get().traces(subject),
                    subject == 10 ? 0 : due);
        }
        CHECK.changesNothing("traces(0)", MIXED, x -> x.traces(0));
    }

    private static void tracesInEachState() {
        CHECK.promise(28, TRACES);
        CHECK.same("of both a root and a derived one", MIXED.get().traces(0), 0b0101);
        CHECK.same("present ones", MIXED.get().traces(1), 0b1110);
        CHECK.same("requested ones", MIXED.get().traces(2), 0b110000);
        CHECK.same("erased ones", MIXED.get().traces(3), 0);
        Privacyledger x = MIXED.get();
        x.close(5);
        CHECK.same("erase()", x.erase(), 5);
        CHECK.same("one requested, one erased", x.traces(2), 0b010000);
        x.add(3, 1);
        CHECK.same("one present, two erased", x.traces(3), 1 << 8);
    }

    private static void tracesFromNoneToAll() {
        CHECK.promise(28, TRACES, "Returns the set of records.");
        Privacyledger x = new Privacyledger();
        x.addPurpose(10, false);
        CHECK.same("without records", x.traces(11), 0);
        for (int record = 0; record < 30; record++) {
            x.add(11, 1);
            CHECK.same("traces(11)", x.traces(11), (1 << record + 1) - 1);
        }
        CHECK.same("all", x.traces(11), ALL_RECORDS);
        CHECK.same("of the subject beside", x.traces(10), 0);
        x.request(11);
        for (int record = 29; record >= 0; record--) {
            x.erase();
            CHECK.same("traces(11)", x.traces(11), (1 << record) - 1);
        }
    }

    private static void subjectOfTracesFromRoots() {
        CHECK.promise(29, "`subject`: 0 to 11", "Returns the set of records.",
                "Throws `IndexOutOfBoundsException` if there is no such subject");
        for (Supplier<Privacyledger> start : Starts.ALL) {
            CHECK.refusesBeside(12, "tracesFromRoots", start, (x, s) -> x.tracesFromRoots(s));
        }
        for (int subject = 0; subject < 12; subject++) {
            int due = 1 << subject | 1 << subject + 12 | (subject < 6 ? 1 << subject + 24 : 0);
            CHECK.same("tracesFromRoots(" + subject + ")", FULL.get().tracesFromRoots(subject),
                    subject == 10 ? 0 : due);
        }
        CHECK.changesNothing("tracesFromRoots(0)", MIXED, x -> x.tracesFromRoots(0));
    }

    private static void fromOneRootToSeveral() {
        CHECK.promise(29, FROM_ROOTS);
        Privacyledger x = new Privacyledger();
        x.addPurpose(10, false);
        CHECK.same("no root", x.tracesFromRoots(0), 0);
        x.add(1, 1);
        CHECK.same("a root of another", x.tracesFromRoots(0), 0);
        x.add(0, 1);
        CHECK.same("a root", x.tracesFromRoots(0), 0b10);
        x.derive(0, 1);
        CHECK.same("below the root of another", x.tracesFromRoots(0), 0b10);
        x.addSource(2, 1);
        CHECK.same("below its own root, too", x.tracesFromRoots(0), 0b110);
        x.derive(2, 1);
        CHECK.same("below what is below", x.tracesFromRoots(0), 0b1110);
        x.add(0, 1);
        CHECK.same("a second root", x.tracesFromRoots(0), 0b11110);
        x.derive(4, 1);
        CHECK.same("below the second root", x.tracesFromRoots(0), 0b111110);
        CHECK.same("of the other one", x.tracesFromRoots(1), 0b001101);
    }

    private static void downThroughErasedOnes() {
        CHECK.promise(29, FROM_ROOTS);
        Privacyledger x = new Privacyledger();
        x.addPurpose(10, false);
        x.add(0, 1);
        for (int record = 1; record < 30; record++) {
            x.derive(record - 1, 1);
        }
        CHECK.same("all", x.tracesFromRoots(0), ALL_RECORDS);
        x.request(0);
        CHECK.same("all requested", x.tracesFromRoots(0), ALL_RECORDS);
        for (int record = 29; record >= 0; record--) {
            x.erase();
            CHECK.same("tracesFromRoots(0)", x.tracesFromRoots(0), (1 << record) - 1);
        }
    }

    private static void theSameAsTraces() {
        CHECK.promise(29, FROM_ROOTS);
        for (Supplier<Privacyledger> start : Starts.ALL) {
            Privacyledger x = start.get();
            for (int days = 0; days < 3; days++) {
                for (int subject = 0; subject < 12; subject++) {
                    CHECK.same("tracesFromRoots(" + subject + ")", x.tracesFromRoots(subject),
                            x.traces(subject));
                }
                x.passDays(50);
                x.eraseAll();
            }
        }
    }

    private static void nothingDue() {
        CHECK.promise(30, DUE);
        for (Supplier<Privacyledger> start : Starts.ALL) {
            CHECK.same("due()", start.get().due(), 0);
            CHECK.changesNothing("due()", start, x -> x.due());
        }
    }

    private static void dueByRetention() {
        CHECK.promise(30, DUE);
        CHECK.terms(Terms.DUE);
        Privacyledger x = MIXED.get();
        x.setRetention(0, 5);
        CHECK.same("the day is one less than the end", x.due(), 0);
        x.setRetention(0, 4);
        CHECK.same("the day is the end; 1 has another purpose", x.due(), 0b0101);
        x.setRetention(0, 3);
        CHECK.same("the day is one more than the end", x.due(), 0b0101);
        CHECK.same("they are present", x.stateOf(0) + x.stateOf(2), 0);
        CHECK.same("due() changes nothing", x.due(), 0b0101);
        x.setRetention(1, 4);
        CHECK.same("the other purpose is over, too", x.due(), 0b1111);
        x.setRetention(0, 5);
        CHECK.same("one purpose is open again", x.due(), 0b1000);
        x.setRetention(1, 5);
        CHECK.same("both are open again", x.due(), 0);
        CHECK.same("the day begins on which both end", x.passDays(1), 4);
    }

    private static void dueByConsent() {
        CHECK.promise(30, DUE);
        CHECK.terms(Terms.DUE);
        Privacyledger x = MIXED.get();
        x.consent(0, 1, true);
        CHECK.same("derive of both", x.derive(2, 0b010), 8);
        CHECK.same("both consent", x.due(), 0);
        x.consent(0, 1, false);
        CHECK.same("one consents", x.due(), 1 << 8);
        x.consent(1, 1, false);
        CHECK.same("none consents; 1 has another purpose", x.due(), 1 << 8 | 0b1000);
        x.consent(0, 1, true);
        CHECK.same("the other one consents", x.due(), 1 << 8 | 0b1000);
        x.consent(1, 1, true);
        CHECK.same("both consent again", x.due(), 0);
        x.addSource(3, 0);
        CHECK.same("one more subject, who consents", x.due(), 0);
        x.add(10, 0b001);
        x.addSource(3, 2);
        x.derive(9, 0b001);
        x.addSource(8, 3);
        CHECK.same("no subject more", x.due(), 0);
        x.derive(1, 0b010);
        x.addSource(11, 9);
        CHECK.same("one more subject, who does not consent", x.due(), 1 << 11);
        CHECK.same("the day begins", x.passDays(1), 1);
    }

    private static void dueButNotPresent() {
        CHECK.promise(30, DUE);
        Privacyledger x = MIXED.get();
        x.setRetention(0, 0);
        CHECK.same("not the requested and erased ones", x.due(), 0b0101);
        CHECK.same("as the day begins", x.passDays(1), 2);
        CHECK.same("requested by that", x.due(), 0);
        x.setRetention(1, 0);
        CHECK.same("present ones", x.due(), 0b1010);
        x.request(1);
        CHECK.same("requested before the day begins", x.due(), 0);
        CHECK.same("as the day begins", x.passDays(1), 0);
        x.close(0);
        x.close(5);
        x.eraseAll();
        CHECK.same("erased", x.due(), 0);
    }

    private static void allDue() {
        CHECK.promise(30, DUE);
        Privacyledger x = new Privacyledger();
        x.addPurpose(10, false);
        for (int record = 0; record < 30; record++) {
            x.add(record % 12, 1);
        }
        x.passDays(9);
        CHECK.same("on the last day", x.due(), 0);
        x.setRetention(0, 9);
        CHECK.same("all", x.due(), ALL_RECORDS);
        x.setRetention(0, 10);
        CHECK.same("none", x.due(), 0);
        CHECK.same("as the day begins", x.passDays(1), 30);
        CHECK.same("none is present", x.due(), 0);
    }
}
