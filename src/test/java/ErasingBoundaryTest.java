import java.util.function.Supplier;

/** Promises 24 to 27 at and beside each boundary that the document names. */
final class ErasingBoundaryTest {
    private static final Check CHECK = new Check();

    private static final Supplier<Privacyledger> EMPTY = Starts.EMPTY;
    private static final Supplier<Privacyledger> MIXED = Starts.MIXED;
    private static final Supplier<Privacyledger> FULL = Starts.FULL;

    private static final String REQUESTED = "Returns how many records are requested by that.";
    private static final String KEPT = "Returns 0 if it can be erased; otherwise the first of these"
            + " that is so: 1 it is erased; 2 it is present; 3 it is held; 4 some record below it"
            + " is not erased.";
    private static final String ERASED_OR_NONE =
            "Returns its number; NONE if none can be erased.";

    public static void main(String[] args) {
        subjectOfRequest();
        requestNothing();
        requestPresentOnesAlone();
        requestAllBelow();
        requestAllRecords();
        recordOfWhyKept();
        keptByItsState();
        keptByCases();
        keptByWhatIsBelow();
        firstOfTheReasons();
        eraseNothing();
        eraseTheHighest();
        eraseFromBelow();
        eraseAllOfNothing();
        eraseAllRecords();
        eraseAllAroundHeldOnes();
        CHECK.end();
    }

    /** Thirty records of subject 0: a root, and each other one derived from the one before. */
    private static Privacyledger chain() {
        Privacyledger x = new Privacyledger();
        x.addPurpose(10, false);
        x.add(0, 1);
        for (int record = 1; record < 30; record++) {
            x.derive(record - 1, 1);
        }
        return x;
    }

    private static void subjectOfRequest() {
        CHECK.promise(24, "`subject`: 0 to 11",
                "Throws `IndexOutOfBoundsException` if there is no such subject");
        for (Supplier<Privacyledger> start : Starts.ALL) {
            CHECK.refusesBeside(12, "request", start, (x, subject) -> x.request(subject));
        }
        int[] due = {3, 3, 3, 3, 3, 3, 2, 2, 2, 0, 0, 2};
        for (int subject = 0; subject < 12; subject++) {
            CHECK.same("request(" + subject + ")", FULL.get().request(subject), due[subject]);
        }
    }

    private static void requestNothing() {
        CHECK.promise(24, REQUESTED);
        for (int each = 0; each < 12; each++) {
            int subject = each;
            CHECK.same("request without records", EMPTY.get().request(subject), 0);
            CHECK.changesNothing("request without records", EMPTY, x -> x.request(subject));
        }
        CHECK.same("a subject without records", MIXED.get().request(11), 0);
        CHECK.changesNothing("a subject without records", MIXED, x -> x.request(11));
        CHECK.changesNothing("a subject whose records are requested", MIXED, x -> x.request(2));
        CHECK.changesNothing("a subject whose records are erased", MIXED, x -> x.request(3));
    }

    private static void requestPresentOnesAlone() {
        CHECK.promise(24, "Asks for the erasure of all present records that are of a subject.",
                REQUESTED);
        Privacyledger x = MIXED.get();
        CHECK.same("requested before", x.request(2), 0);
        CHECK.same("erased before", x.request(3), 0);
        x.add(2, 1);
        x.add(3, 1);
        CHECK.same("one present, two requested", x.request(2), 1);
        CHECK.same("one present, two erased", x.request(3), 1);
        CHECK.same("present and held", x.request(1), 3);
        CHECK.same("stateOf(0), of another alone", x.stateOf(0), 0);
        CHECK.same("stateOf(2), of both", x.stateOf(2), 1);
        CHECK.same("the one that is left", x.request(0), 1);
        CHECK.same("none is left", x.request(0), 0);
        CHECK.same("none is left", x.request(1), 0);
    }

    private static void requestAllBelow() {
        CHECK.promise(24, "Asks for the erasure of all present records that are of a subject.");
        CHECK.terms(Terms.REQUESTED_BELOW);
        Privacyledger x = chain();
        CHECK.same("all below", x.request(0), 30);
        CHECK.same("the last", x.stateOf(29), 1);
        Privacyledger y = MIXED.get();
        y.derive(2, 1);
        CHECK.same("all of 1, and what is below", y.request(1), 4);
        CHECK.same("below what is of both", y.stateOf(8), 1);
        CHECK.same("above it, of another", y.stateOf(0), 0);
        Privacyledger z = MIXED.get();
        z.derive(3, 1);
        z.addSource(8, 0);
        CHECK.same("0 and 2, and 8 by its second source", z.request(0), 3);
        CHECK.same("beside", z.stateOf(3), 0);
    }

    private static void requestAllRecords() {
        CHECK.promise(24, REQUESTED);
        Privacyledger x = new Privacyledger();
        x.addPurpose(5, false);
        for (int record = 0; record < 30; record++) {
            x.add(record < 29 ? 11 : 0, 1);
        }
        CHECK.same("29 of 30", x.request(11), 29);
        CHECK.same("due(), nextEnd() of the last", x.nextEnd(), 5);
        CHECK.same("the last", x.request(0), 1);
        CHECK.same("traces(11)", x.traces(11), (1 << 29) - 1);
    }

    private static void recordOfWhyKept() {
        CHECK.promise(25, "Tells what keeps a record from being erased now.",
                "`record`: the number of a record",
                "Throws `IndexOutOfBoundsException` if there is no such record");
        CHECK.refusesBeside(0, "whyKept", EMPTY, (x, record) -> x.whyKept(record));
        CHECK.refusesBeside(8, "whyKept", MIXED, (x, record) -> x.whyKept(record));
        CHECK.refusesBeside(30, "whyKept", FULL, (x, record) -> x.whyKept(record));
        int[] due = {2, 2, 2, 2, 3, 3, 1, 1};
        for (int record = 0; record < 8; record++) {
            CHECK.same("whyKept(" + record + ")", MIXED.get().whyKept(record), due[record]);
        }
        CHECK.same("whyKept(29) of 30", FULL.get().whyKept(29), 2);
        CHECK.changesNothing("whyKept(4)", MIXED, x -> x.whyKept(4));
    }

    private static void keptByItsState() {
        CHECK.promise(25, KEPT);
        CHECK.terms(Terms.CAN_BE_ERASED);
        Privacyledger x = chain();
        for (int record = 0; record < 30; record++) {
            CHECK.same("present", x.whyKept(record), 2);
        }
        x.passDays(9);
        CHECK.same("present on its last day", x.whyKept(29), 2);
        x.passDays(1);
        for (int record = 0; record < 30; record++) {
            CHECK.same("requested", x.whyKept(record), record < 29 ? 4 : 0);
        }
        x.eraseAll();
        for (int record = 0; record < 30; record++) {
            CHECK.same("erased", x.whyKept(record), 1);
        }
    }

    private static void keptByCases() {
        CHECK.promise(25, KEPT);
        CHECK.terms(Terms.CAN_BE_ERASED, Terms.HELD);
        for (int holder = 0; holder < 6; holder++) {
            Privacyledger x = MIXED.get();
            x.close(0);
            x.close(5);
            CHECK.same("requested, held no more", x.whyKept(5), 0);
            x.hold(holder, 5);
            CHECK.same("held by " + holder, x.whyKept(5), 3);
            CHECK.same("one below is held", x.whyKept(4), 4);
            x.hold((holder + 1) % 6, 5);
            x.close(holder);
            CHECK.same("held by another one still", x.whyKept(5), 3);
            x.close((holder + 1) % 6);
            CHECK.same("held by none", x.whyKept(5), 0);
            x.hold(holder, 4);
            CHECK.same("one above is held", x.whyKept(5), 0);
        }
    }

    private static void keptByWhatIsBelow() {
        CHECK.promise(25, KEPT);
        CHECK.terms(Terms.CAN_BE_ERASED);
        Privacyledger x = new Privacyledger();
        x.addPurpose(10, false);
        x.add(0, 1);
        x.derive(0, 1);
        x.derive(0, 1);
        x.derive(1, 1);
        x.add(1, 1);
        x.request(0);
        CHECK.same("two below, and one below these", x.whyKept(0), 4);
        CHECK.same("one below", x.whyKept(1), 4);
        CHECK.same("none below", x.whyKept(2), 0);
        CHECK.same("erase()", x.erase(), 3);
        CHECK.same("what was below is erased", x.whyKept(1), 0);
        CHECK.same("one of two beside is left", x.whyKept(0), 4);
        CHECK.same("erase()", x.erase(), 2);
        CHECK.same("the other of two is left", x.whyKept(0), 4);
        CHECK.same("erase()", x.erase(), 1);
        CHECK.same("all below are erased", x.whyKept(0), 0);
        CHECK.same("a present one beside", x.whyKept(4), 2);
        Privacyledger y = MIXED.get();
        y.addSource(3, 0);
        y.hold(1, 3);
        y.close(5);
        y.request(0);
        y.request(1);
        CHECK.same("eraseAll(): 5 and 2, for 0 and 1 are above 3", y.eraseAll(), 2);
        CHECK.same("its second source, above the held one", y.whyKept(0), 4);
        CHECK.same("its first source, above the held one", y.whyKept(1), 4);
    }

    private static void firstOfTheReasons() {
        CHECK.promise(25, KEPT);
        Privacyledger x = MIXED.get();
        CHECK.same("present, and held, and one below", x.whyKept(1), 2);
        CHECK.same("present, and one below", x.whyKept(0), 2);
        CHECK.same("held, and one below", x.whyKept(4), 3);
        CHECK.same("held alone", x.whyKept(5), 3);
        x.close(0);
        CHECK.same("one below alone", x.whyKept(4), 4);
    }

    private static void eraseNothing() {
        CHECK.promise(26, ERASED_OR_NONE);
        CHECK.terms(Terms.NONE);
        CHECK.same("without records", EMPTY.get().erase(), Privacyledger.NONE);
        CHECK.changesNothing("erase() without records", EMPTY, x -> x.erase());
        CHECK.same("present, held or erased ones", MIXED.get().erase(), Privacyledger.NONE);
        CHECK.changesNothing("erase() of none", MIXED, x -> x.erase());
        CHECK.same("a held one, and one above it", FULL.get().erase(), Privacyledger.NONE);
        CHECK.changesNothing("erase() of none", FULL, x -> x.erase());
        CHECK.same("all present", chain().erase(), Privacyledger.NONE);
    }

    private static void eraseTheHighest() {
        CHECK.promise(26, "Erases the record with the highest number of those that can be erased.",
                ERASED_OR_NONE);
        Privacyledger x = new Privacyledger();
        x.addPurpose(5, false);
        for (int record = 0; record < 30; record++) {
            x.add(record % 2, 1);
        }
        x.request(1);
        x.hold(0, 29);
        CHECK.same("the highest is held", x.erase(), 27);
        x.close(0);
        CHECK.same("the highest", x.erase(), 29);
        for (int record = 25; record > 0; record -= 2) {
            CHECK.same("the next", x.erase(), record);
            CHECK.same("the one below it in number", x.stateOf(record - 1), 0);
        }
        CHECK.same("none", x.erase(), Privacyledger.NONE);
        x.request(0);
        CHECK.same("the highest of the others", x.erase(), 28);
        CHECK.same("all but the lowest", x.eraseAll(), 14);
    }

    private static void eraseFromBelow() {
        CHECK.promise(26, "Erases the record with the highest number of those that can be erased.");
        CHECK.terms(Terms.CAN_BE_ERASED);
        Privacyledger x = chain();
        x.request(0);
        x.hold(3, 10);
        for (int record = 29; record > 10; record--) {
            CHECK.same("from below", x.erase(), record);
        }
        CHECK.same("the next is held", x.erase(), Privacyledger.NONE);
        x.close(3);
        for (int record = 10; record >= 0; record--) {
            CHECK.same("from below", x.erase(), record);
        }
        CHECK.same("all are erased", x.erase(), Privacyledger.NONE);
    }

    private static void eraseAllOfNothing() {
        CHECK.promise(27, "Returns how many are erased.");
        CHECK.same("without records", EMPTY.get().eraseAll(), 0);
        CHECK.same("present, held or erased ones", MIXED.get().eraseAll(), 0);
        CHECK.same("a held one, and one above it", FULL.get().eraseAll(), 0);
        CHECK.same("all present", chain().eraseAll(), 0);
        for (Supplier<Privacyledger> start : Starts.ALL) {
            CHECK.changesNothing("eraseAll() of none", start, x -> x.eraseAll());
        }
    }

    private static void eraseAllRecords() {
        CHECK.promise(27, "Erases as long as a record can be erased.",
                "Returns how many are erased.");
        Privacyledger x = chain();
        x.request(0);
        CHECK.same("thirty in a chain", x.eraseAll(), 30);
        CHECK.same("again", x.eraseAll(), 0);
        Privacyledger y = FULL.get();
        for (int holder = 0; holder < 6; holder++) {
            y.close(holder);
        }
        CHECK.same("9 and 21", y.eraseAll(), 2);
        y.request(0);
        CHECK.same("0, 12 and 24", y.eraseAll(), 3);
        y.passDays(1000);
        CHECK.same("all others", y.eraseAll(), 23);
        Privacyledger z = chain();
        z.passDays(10);
        z.erase();
        CHECK.same("all but the one that was erased", z.eraseAll(), 29);
        CHECK.alike("eraseAll() and erase() as long as it erases",
                () -> {
                    Privacyledger one = chain();
                    one.passDays(10);
                    one.eraseAll();
                    return one;
                },
                () -> {
                    Privacyledger other = chain();
                    other.passDays(10);
                    for (int count = 0; count < 30; count++) {
                        other.erase();
                    }
                    return other;
                });
    }

    private static void eraseAllAroundHeldOnes() {
        CHECK.promise(27, "Erases as long as a record can be erased.",
                "Returns how many are erased.");
        Privacyledger x = chain();
        x.request(0);
        x.hold(0, 29);
        CHECK.same("the last is held", x.eraseAll(), 0);
        x.close(0);
        x.hold(0, 0);
        CHECK.same("the first is held", x.eraseAll(), 29);
        x.close(0);
        CHECK.same("the first", x.eraseAll(), 1);
        Privacyledger y = chain();
        y.request(0);
        y.hold(0, 15);
        CHECK.same("one between is held", y.eraseAll(), 14);
        CHECK.same("it is not erased", y.stateOf(15), 1);
        CHECK.same("nor is what is above it", y.stateOf(14), 1);
        y.close(0);
        CHECK.same("it, and what is above it", y.eraseAll(), 16);
    }
}
