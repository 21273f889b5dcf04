import java.util.List;
import java.util.function.Supplier;

/** Promises 7 to 10 at and beside each boundary that the document names. */
final class AddingBoundaryTest {
    private static final Check CHECK = new Check();

    private static final Supplier<Privacyledger> EMPTY = Starts.EMPTY;
    private static final Supplier<Privacyledger> MIXED = Starts.MIXED;
    private static final Supplier<Privacyledger> FULL = Starts.FULL;


    /** Sets with a bit beside the lowest count purposes. */
    private static int[] setsBeyond(int count) {
        int bit = 1 << count;
        return new int[] {bit, bit | 1, bit << 1, 1 << 8, 1 << 30, 1 << 31, 1 << 31 | 1, -1, -bit,
                Integer.MAX_VALUE};
    }

    public static void main(String[] args) {
        subjectOfAdd();
        purposesOfAdd();
        addWithoutPurposes();
        addBesideThirtyRecords();
        addWhereNothingIsOpen();
        addWithTwoExceptions();
        sourceOfDerive();
        purposesOfDerive();
        deriveWithoutPurposes();
        deriveBesideThirtyRecords();
        deriveFromWhatIsNotPresent();
        deriveWhereNothingIsOpen();
        deriveWithTwoExceptions();
        recordAndSourceOfAddSource();
        sourceLowerThanTheRecord();
        sourceThatIsOneAlready();
        addSourceToRoots();
        addSourceOfWhatIsNotPresent();
        subjectsAfterAddSource();
        subjectsBelowAfterAddSource();
        addSourceWithTwoExceptions();
        howManyRecords();
        CHECK.end();
    }

    private static Privacyledger withPurposes(int count) {
        Privacyledger x = new Privacyledger();
        for (int purpose = 0; purpose < count; purpose++) {
            x.addPurpose(10 + purpose, false);
        }
        return x;
    }

    private static void subjectOfAdd() {
        CHECK.promise(7, "Adds a root record.", "`subject`: 0 to 11", "Throws"
                + " `IndexOutOfBoundsException` if there is no such subject, or the set has a bit"
                + " of no purpose");
        CHECK.terms(Terms.ROOTS, Terms.STATES);
        for (Supplier<Privacyledger> start : Starts.ALL) {
            CHECK.refusesBeside(12, "add", start, (x, subject) -> x.add(subject, 1));
        }
        for (int subject = 0; subject < 12; subject++) {
            Privacyledger x = MIXED.get();
            CHECK.same("add", x.add(subject, 1), 8);
            CHECK.same("subjectsOf", x.subjectsOf(8), 1 << subject);
            CHECK.same("stateOf", x.stateOf(8), Privacyledger.PRESENT);
        }
    }

    private static void purposesOfAdd() {
        CHECK.promise(7, "`purposes`: the set of its purposes, one or more", "Throws"
                + " `IndexOutOfBoundsException` if there is no such subject, or the set has a bit"
                + " of no purpose", "Returns its number.");
        for (int set : setsBeyond(0)) {
            CHECK.refusesBounds("add(0, " + set + ")", EMPTY, x -> x.add(0, set));
        }
        for (int count : new int[] {1, 7, 8}) {
            for (int set : setsBeyond(count)) {
                CHECK.refusesBounds("add(0, " + set + ") of " + count, () -> withPurposes(count),
                        x -> x.add(0, set));
            }
            Privacyledger x = withPurposes(count);
            CHECK.same("the lowest", x.add(0, 1), 0);
            CHECK.same("the highest", x.add(11, 1 << count - 1), 1);
            CHECK.same("all", x.add(5, (1 << count) - 1), 2);
            CHECK.same("endOf the lowest", x.endOf(0), 10);
            CHECK.same("endOf the highest", x.endOf(1), 9 + count);
            CHECK.same("endOf all", x.endOf(2), 9 + count);
        }
    }

    private static void addWithoutPurposes() {
        CHECK.promise(7, "`purposes`: the set of its purposes, one or more",
                "Throws `IllegalArgumentException` if the set is empty");
        for (Supplier<Privacyledger> start : Starts.ALL) {
            CHECK.refusesArgument("add(0, 0)", start, x -> x.add(0, 0));
            CHECK.refusesArgument("add(11, 0)", start, x -> x.add(11, 0));
        }
        CHECK.same("add(0, 1)", MIXED.get().add(0, 1), 8);
    }

    private static void addBesideThirtyRecords() {
        CHECK.promise(7, "Returns its number.", "Throws `IllegalStateException` if there are 30"
                + " records, or none of these purposes would be open for the record");
        CHECK.terms(Terms.NUMBERS);
        Privacyledger x = withPurposes(1);
        for (int record = 0; record < 29; record++) {
            CHECK.same("add", x.add(0, 1), record);
        }
        CHECK.same("the thirtieth add", x.add(11, 1), 29);
        CHECK.badState("the next add", () -> x.add(0, 1));
        x.request(0);
        x.eraseAll();
        CHECK.badState("add, when 29 of 30 are erased", () -> x.add(0, 1));
        CHECK.refusesState("add(0, 1)", FULL, full -> full.add(0, 1));
        CHECK.refusesState("add(11, 255)", FULL, full -> full.add(11, 255));
    }

    private static void addWhereNothingIsOpen() {
        CHECK.promise(7, "Throws `IllegalStateException` if there are 30 records, or none of these"
                + " purposes would be open for the record");
        CHECK.terms(Terms.OPEN);
        CHECK.refusesState("add for 0 days", MIXED, x -> x.add(0, 0b100));
        CHECK.refusesState("add without consent", MIXED, x -> x.add(0, 0b010));
        CHECK.refusesState("add with the consent of others", MIXED, x -> x.add(10, 0b010));
        CHECK.refusesState("add for two that are not open", MIXED, x -> x.add(0, 0b110));
        CHECK.same("add with consent", MIXED.get().add(11, 0b010), 8);
        CHECK.same("add with one of two open", MIXED.get().add(0, 0b101), 8);
        CHECK.same("add with one of three open", MIXED.get().add(0, 0b111), 8);
        Privacyledger x = MIXED.get();
        x.setRetention(2, 1);
        CHECK.same("add for 1 day", x.add(0, 0b100), 8);
        x.setRetention(1, 0);
        CHECK.badState("add with consent for 0 days", () -> x.add(11, 0b010));
        x.setRetention(1, 1);
        x.consent(11, 1, false);
        CHECK.badState("add for 1 day without consent", () -> x.add(11, 0b010));
        x.consent(11, 1, true);
        CHECK.same("add for 1 day with consent", x.add(11, 0b010), 9);
    }

    private static void addWithTwoExceptions() {
        CHECK.promise(7, "Throws `IndexOutOfBoundsException` if there is no such subject, or the"
                + " set has a bit of no purpose",
                "Throws `IllegalArgumentException` if the set is empty", "Throws"
                + " `IllegalStateException` if there are 30 records, or none of these purposes"
                + " would be open for the record");
        CHECK.terms(Terms.REFUSED_CALLS);
        for (Supplier<Privacyledger> start : Starts.ALL) {
            CHECK.refusesBounds("no subject, and the empty set", start, x -> x.add(12, 0));
            CHECK.refusesBounds("no subject, and the empty set", start, x -> x.add(-1, 0));
        }
        CHECK.refusesBounds("no subject, and nothing open", MIXED, x -> x.add(12, 0b110));
        CHECK.refusesBounds("a bit of no purpose, and nothing open", MIXED, x -> x.add(0, 0b1100));
        CHECK.refusesBounds("no subject, and 30 records", FULL, x -> x.add(12, 1));
        CHECK.refusesBounds("a bit of no purpose, and 30 records", FULL, x -> x.add(0, 256));
        CHECK.refusesArgument("the empty set, and 30 records", FULL, x -> x.add(0, 0));
        CHECK.refusesArgument("the empty set, and so nothing open", MIXED, x -> x.add(0, 0));
        CHECK.refusesBounds("all three", FULL, x -> x.add(12, 0));
        CHECK.refusesState("30 records, and nothing open", FULL, x -> x.add(0, 0b1000));
    }

    private static void sourceOfDerive() {
        CHECK.promise(8, "Adds a derived record with one source.",
                "`source`: the number of a record", "Throws `IndexOutOfBoundsException` if there"
                + " is no such record, or the set has a bit of no purpose");
        CHECK.terms(Terms.DERIVED);
        CHECK.refusesBeside(0, "derive", EMPTY, (x, source) -> x.derive(source, 1));
        CHECK.refusesBeside(8, "derive", MIXED, (x, source) -> x.derive(source, 1));
        CHECK.refusesBeside(30, "derive", FULL, (x, source) -> x.derive(source, 1));
        Privacyledger x = withPurposes(1);
        x.add(0, 1);
        CHECK.same("derive(0, 1)", x.derive(0, 1), 1);
        for (int record = 2; record < 30; record++) {
            CHECK.same("derive of the last", x.derive(record - 1, 1), record);
            CHECK.same("below the source", x.below(record - 1), 1 << record);
            CHECK.same("subjectsOf", x.subjectsOf(record), 1);
        }
        Privacyledger y = MIXED.get();
        CHECK.same("derive of one of two subjects", y.derive(2, 1), 8);
        CHECK.same("subjectsOf", y.subjectsOf(8), 0b11);
        CHECK.same("stateOf", y.stateOf(8), Privacyledger.PRESENT);
        CHECK.same("endOf, from its own day on", y.endOf(8), 14);
    }

    private static void purposesOfDerive() {
        CHECK.promise(8, "`purposes`: the set of its purposes, one or more", "Returns its number.",
                "Throws `IndexOutOfBoundsException` if there is no such record, or the set has a"
                + " bit of no purpose");
        for (int count : new int[] {1, 7, 8}) {
            Supplier<Privacyledger> start = () -> {
                Privacyledger x = withPurposes(count);
                x.add(3, 1);
                return x;
            };
            for (int set : setsBeyond(count)) {
                CHECK.refusesBounds("derive(0, " + set + ") of " + count, start,
                        x -> x.derive(0, set));
            }
            Privacyledger x = start.get();
            CHECK.same("the lowest", x.derive(0, 1), 1);
            CHECK.same("the highest", x.derive(0, 1 << count - 1), 2);
            CHECK.same("all", x.derive(0, (1 << count) - 1), 3);
            CHECK.same("endOf the lowest", x.endOf(1), 10);
            CHECK.same("endOf the highest", x.endOf(2), 9 + count);
            CHECK.same("endOf all", x.endOf(3), 9 + count);
        }
    }

    private static void deriveWithoutPurposes() {
        CHECK.promise(8, "`purposes`: the set of its purposes, one or more",
                "Throws `IllegalArgumentException` if the set is empty");
        CHECK.refusesArgument("derive(0, 0)", MIXED, x -> x.derive(0, 0));
        CHECK.refusesArgument("derive(3, 0)", MIXED, x -> x.derive(3, 0));
        CHECK.same("derive(0, 1)", MIXED.get().derive(0, 1), 8);
    }

    private static void deriveBesideThirtyRecords() {
        CHECK.promise(8, "Throws `IllegalStateException` if there are 30 records, the source is not"
                + " present, or none of these purposes would be open for the record");
        Privacyledger x = withPurposes(1);
        x.add(0, 1);
        for (int record = 1; record < 29; record++) {
            x.derive(0, 1);
        }
        CHECK.same("the thirtieth record", x.derive(28, 1), 29);
        CHECK.badState("one more", () -> x.derive(0, 1));
        CHECK.badState("one more", () -> x.derive(29, 1));
        CHECK.refusesState("derive(0, 1)", FULL, full -> full.derive(0, 1));
        CHECK.refusesState("derive(29, 1)", FULL, full -> full.derive(29, 1));
    }

    private static void deriveFromWhatIsNotPresent() {
        CHECK.promise(8, "Throws `IllegalStateException` if there are 30 records, the source is not"
                + " present, or none of these purposes would be open for the record");
        for (int source = 0; source < 4; source++) {
            CHECK.same("derive of a present one", MIXED.get().derive(source, 1), 8);
        }
        for (int source = 4; source < 8; source++) {
            int number = source;
            CHECK.refusesState("derive of a requested or erased one, " + source, MIXED,
                    x -> x.derive(number, 1));
        }
        Privacyledger x = MIXED.get();
        x.setRetention(0, 4);
        CHECK.badState("nothing would be open tomorrow", () -> x.derive(0, 0b100));
        CHECK.same("derive of one that is due, but present", x.derive(0, 0b001), 8);
        x.passDays(1);
        CHECK.badState("derive of it when a day has begun", () -> x.derive(0, 0b001));
    }

    private static void deriveWhereNothingIsOpen() {
        CHECK.promise(8, "Throws `IllegalStateException` if there are 30 records, the source is not"
                + " present, or none of these purposes would be open for the record");
        CHECK.terms(Terms.OPEN);
        CHECK.refusesState("derive for 0 days", MIXED, x -> x.derive(0, 0b100));
        CHECK.refusesState("derive without consent", MIXED, x -> x.derive(0, 0b010));
        CHECK.refusesState("derive with the consent of one of two", MIXED,
                x -> x.derive(2, 0b010));
        CHECK.refusesState("derive for two that are not open", MIXED, x -> x.derive(2, 0b110));
        CHECK.same("derive with the consent of the one", MIXED.get().derive(1, 0b010), 8);
        CHECK.same("derive with one of three open", MIXED.get().derive(2, 0b111), 8);
        Privacyledger x = MIXED.get();
        x.consent(0, 1, true);
        CHECK.same("derive with the consent of both", x.derive(2, 0b010), 8);
        x.setRetention(1, 0);
        CHECK.badState("derive with the consent of both for 0 days", () -> x.derive(2, 0b010));
        x.setRetention(1, 1);
        CHECK.same("derive with the consent of both for 1 day", x.derive(2, 0b010), 9);
        x.consent(1, 1, false);
        CHECK.badState("derive with the consent of the other of two", () -> x.derive(2, 0b010));
    }

    private static void deriveWithTwoExceptions() {
        CHECK.promise(8, "Throws `IndexOutOfBoundsException` if there is no such record, or the set"
                + " has a bit of no purpose",
                "Throws `IllegalArgumentException` if the set is empty", "Throws"
                + " `IllegalStateException` if there are 30 records, the source is not present, or"
                + " none of these purposes would be open for the record");
        CHECK.terms(Terms.REFUSED_CALLS);
        CHECK.refusesBounds("no record, and the empty set", EMPTY, x -> x.derive(0, 0));
        CHECK.refusesBounds("no record, and the empty set", MIXED, x -> x.derive(8, 0));
        CHECK.refusesBounds("no record, and the empty set", MIXED, x -> x.derive(-1, 0));
        CHECK.refusesBounds("no record, and nothing open", MIXED, x -> x.derive(8, 0b100));
        CHECK.refusesBounds("no record, and 30 records", FULL, x -> x.derive(30, 1));
        CHECK.refusesBounds("a bit of no purpose, and 30 records", FULL, x -> x.derive(0, 256));
        CHECK.refusesBounds("a bit of no purpose, and nothing open", MIXED,
                x -> x.derive(0, 0b1100));
        CHECK.refusesBounds("a bit of no purpose, and requested", MIXED, x -> x.derive(4, 8));
        CHECK.refusesBounds("a bit of no purpose, and erased", MIXED, x -> x.derive(7, 8));
        CHECK.refusesArgument("the empty set, and requested", MIXED, x -> x.derive(4, 0));
        CHECK.refusesArgument("the empty set, and erased", MIXED, x -> x.derive(6, 0));
        CHECK.refusesArgument("the empty set, and 30 records", FULL, x -> x.derive(0, 0));
        CHECK.refusesBounds("all three", FULL, x -> x.derive(30, 0));
        CHECK.refusesState("erased, and nothing open", MIXED, x -> x.derive(6, 0b100));
        CHECK.refusesState("erased, and 30 records", FULL, x -> x.derive(10, 1));
    }

    private static void recordAndSourceOfAddSource() {
        CHECK.promise(9, "`record`: the number of a derived record",
                "`source`: the number of a record that is lower",
                "Throws `IndexOutOfBoundsException` if there is no such record or source");
        CHECK.refusesBounds("addSource(0, 0) without records", EMPTY, x -> x.addSource(0, 0));
        CHECK.refusesBounds("addSource(1, 0) without records", EMPTY, x -> x.addSource(1, 0));
        CHECK.refusesBeside(8, "addSource to a record", MIXED, (x, n) -> x.addSource(n, 0));
        CHECK.refusesBeside(8, "addSource of a record", MIXED, (x, n) -> x.addSource(2, n));
        CHECK.refusesBeside(8, "addSource of the same record", MIXED, (x, n) -> x.addSource(n, n));
        CHECK.refusesBeside(30, "addSource to a record", FULL, (x, n) -> x.addSource(n, 0));
        CHECK.refusesBeside(30, "addSource of a record", FULL, (x, n) -> x.addSource(29, n));
        CHECK.same("addSource(29, 0)", FULL.get().addSource(29, 0), 2);
        CHECK.same("addSource(29, 28)", FULL.get().addSource(29, 28), 2);
    }

    private static void sourceLowerThanTheRecord() {
        CHECK.promise(9, "`source`: the number of a record that is lower", "Throws"
                + " `IllegalArgumentException` if the source is not lower than the record, or is"
                + " one of its sources already");
        CHECK.same("addSource(3, 2), one lower", MIXED.get().addSource(3, 2), 2);
        CHECK.same("addSource(3, 0)", MIXED.get().addSource(3, 0), 2);
        CHECK.refusesArgument("addSource(3, 3), itself", MIXED, x -> x.addSource(3, 3));
        CHECK.refusesArgument("addSource(2, 3), one higher", MIXED, x -> x.addSource(2, 3));
        CHECK.refusesArgument("addSource(12, 29), the last", FULL, x -> x.addSource(12, 29));
        CHECK.refusesArgument("addSource(12, 24), one below it", FULL, x -> x.addSource(12, 24));
    }

    private static void sourceThatIsOneAlready() {
        CHECK.promise(9, "Throws `IllegalArgumentException` if the source is not lower than the"
                + " record, or is one of its sources already");
        CHECK.refusesArgument("the source that it was derived from", MIXED, x -> x.addSource(2, 0));
        CHECK.refusesArgument("the source that it was given", MIXED, x -> x.addSource(2, 1));
        CHECK.refusesArgument("the source of 29", FULL, x -> x.addSource(29, 17));
        Privacyledger x = FULL.get();
        CHECK.same("one above its source is not yet its source", x.addSource(29, 5), 1);
        CHECK.badArgument("now it is", () -> x.addSource(29, 5));
        CHECK.same("one beside its source", x.addSource(29, 18), 2);
        CHECK.badArgument("the source of 29", () -> x.addSource(29, 17));
    }

    private static void addSourceToRoots() {
        CHECK.promise(9, "`record`: the number of a derived record", "Throws"
                + " `IllegalStateException` if the record is a root record, or one of both is not"
                + " present");
        CHECK.refusesState("addSource(1, 0)", MIXED, x -> x.addSource(1, 0));
        CHECK.refusesState("addSource(11, 0)", FULL, x -> x.addSource(11, 0));
        CHECK.refusesState("addSource(11, 8)", FULL, x -> x.addSource(11, 8));
        CHECK.same("addSource(12, 11), the first that is derived", FULL.get().addSource(12, 11), 2);
        Privacyledger x = MIXED.get();
        CHECK.same("a root behind derived ones", x.add(0, 1), 8);
        CHECK.badState("addSource(8, 3)", () -> x.addSource(8, 3));
    }

    private static void addSourceOfWhatIsNotPresent() {
        CHECK.promise(9, "Throws `IllegalStateException` if the record is a root record, or one of"
                + " both is not present");
        CHECK.refusesState("to a requested one", MIXED, x -> x.addSource(5, 0));
        CHECK.refusesState("to an erased one", MIXED, x -> x.addSource(7, 0));
        CHECK.refusesState("to an erased one of a requested one", MIXED, x -> x.addSource(7, 4));
        CHECK.refusesState("of a requested one", FULL, x -> x.addSource(29, 9));
        CHECK.refusesState("of a requested derived one", FULL, x -> x.addSource(29, 21));
        CHECK.refusesState("of an erased one", FULL, x -> x.addSource(29, 10));
        CHECK.refusesState("of an erased derived one", FULL, x -> x.addSource(29, 22));
        CHECK.same("of a present one beside", FULL.get().addSource(29, 8), 2);
        CHECK.same("of a present one beside", FULL.get().addSource(29, 11), 2);
        Privacyledger x = MIXED.get();
        x.setRetention(0, 4);
        CHECK.same("due(), but present", x.due(), 0b101);
        CHECK.same("of one that is due, but present", x.addSource(3, 0), 2);
    }

    private static void subjectsAfterAddSource() {
        CHECK.promise(9, "Gives one more source to a derived record.",
                "It is of the subjects of that source, too, from now on; so are all records below"
                + " it.", "Returns how many subjects the record is of then.");
        CHECK.terms(Terms.DERIVED);
        Privacyledger x = withPurposes(1);
        for (int subject = 0; subject < 12; subject++) {
            x.add(subject, 1);
        }
        x.add(0, 1);
        x.derive(12, 1);
        CHECK.same("no subject more", x.addSource(13, 0), 1);
        for (int subject = 1; subject < 12; subject++) {
            CHECK.same("one subject more", x.addSource(13, subject), subject + 1);
        }
        CHECK.same("all twelve", x.subjectsOf(13), (1 << 12) - 1);
        x.add(11, 1);
        x.derive(14, 1);
        CHECK.same("one subject", x.subjectsOf(15), 1 << 11);
        CHECK.same("eleven subjects more at once", x.addSource(15, 13), 12);
        CHECK.same("source of all, no subject more", x.addSource(15, 0), 12);
    }

    private static void subjectsBelowAfterAddSource() {
        CHECK.promise(9, "It is of the subjects of that source, too, from now on; so are all"
                + " records below it.");
        Privacyledger x = withPurposes(1);
        x.add(0, 1);
        x.add(1, 1);
        x.derive(0, 1);
        x.derive(2, 1);
        x.derive(3, 1);
        x.derive(0, 1);
        x.use(4, 0);
        CHECK.same("uses(1, 0) before", x.uses(1, 0), 0);
        CHECK.same("addSource(3, 1)", x.addSource(3, 1), 2);
        int[] due = {0b01, 0b10, 0b01, 0b11, 0b11, 0b01};
        for (int record = 0; record < due.length; record++) {
            CHECK.same("subjectsOf(" + record + ")", x.subjectsOf(record), due[record]);
        }
        CHECK.same("uses(1, 0) now", x.uses(1, 0), 1);
        CHECK.same("below(1)", x.below(1), 0b011000);
        CHECK.same("derive from below", x.derive(4, 1), 6);
        CHECK.same("subjectsOf(6)", x.subjectsOf(6), 0b11);
    }

    private static void addSourceWithTwoExceptions() {
        CHECK.promise(9, "Throws `IndexOutOfBoundsException` if there is no such record or source",
                "Throws `IllegalArgumentException` if the source is not lower than the record, or"
                + " is one of its sources already", "Throws `IllegalStateException` if the record"
                + " is a root record, or one of both is not present");
        CHECK.terms(Terms.REFUSED_CALLS);
        CHECK.refusesBounds("no source, and not lower", MIXED, x -> x.addSource(2, 8));
        CHECK.refusesBounds("no record, and not lower", MIXED, x -> x.addSource(-1, 0));
        CHECK.refusesBounds("no record and source, not lower", MIXED, x -> x.addSource(8, 9));
        CHECK.refusesBounds("no source, and a root record", MIXED, x -> x.addSource(0, -1));
        CHECK.refusesBounds("no source, and requested", MIXED, x -> x.addSource(5, -1));
        CHECK.refusesBounds("no source, and erased", MIXED, x -> x.addSource(7, 8));
        CHECK.refusesBounds("no record, and the source requested", MIXED, x -> x.addSource(8, 4));
        CHECK.refusesBounds("no record, and the source erased", MIXED, x -> x.addSource(8, 7));
        for (int record : List.of(0, 4, 6)) {
            CHECK.refusesArgument("itself, and a root record", MIXED,
                    x -> x.addSource(record, record));
            CHECK.refusesArgument("one higher, and a root record", MIXED,
                    x -> x.addSource(record, record + 1));
        }
        CHECK.refusesArgument("itself, and requested", MIXED, x -> x.addSource(5, 5));
        CHECK.refusesArgument("itself, and erased", MIXED, x -> x.addSource(7, 7));
        CHECK.refusesArgument("higher, and requested", MIXED, x -> x.addSource(3, 4));
        CHECK.refusesArgument("its source already, and requested", MIXED, x -> x.addSource(5, 4));
        CHECK.refusesArgument("its source already, and erased", MIXED, x -> x.addSource(7, 6));
        CHECK.refusesState("a root record, and requested", MIXED, x -> x.addSource(4, 0));
    }

    private static void howManyRecords() {
        CHECK.promise(10, "Returns how many records were added.");
        CHECK.same("records() of none", EMPTY.get().records(), 0);
        CHECK.same("records() with requested and erased ones", MIXED.get().records(), 8);
        CHECK.same("records() of a full ledger", FULL.get().records(), 30);
        Privacyledger x = withPurposes(1);
        CHECK.badArgument("a refused add", () -> x.add(0, 0));
        CHECK.same("records() after it", x.records(), 0);
        x.add(0, 1);
        CHECK.same("records() after add", x.records(), 1);
        x.derive(0, 1);
        CHECK.same("records() after derive", x.records(), 2);
        x.request(0);
        x.eraseAll();
        CHECK.same("records() after eraseAll", x.records(), 2);
        CHECK.changesNothing("records()", MIXED, y -> y.records());
    }
}
