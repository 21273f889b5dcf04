import java.util.function.Supplier;

/** Promises 11 to 14 at and beside each boundary that the document names. */
final class RecordsBoundaryTest {
    private static final Check CHECK = new Check();

    private static final Supplier<Privacyledger> EMPTY = Starts.EMPTY;
    private static final Supplier<Privacyledger> MIXED = Starts.MIXED;
    private static final Supplier<Privacyledger> FULL = Starts.FULL;

    private static final String RECORD = "`record`: the number of a record";
    private static final String NO_RECORD =
            "Throws `IndexOutOfBoundsException` if there is no such record";

    public static void main(String[] args) {
        recordOfStateOf();
        statesOneAfterAnother();
        requestedUntilErased();
        recordOfSubjectsOf();
        subjectsFromOneToTwelve();
        recordOfBelow();
        whatIsBelow();
        belowWhateverTheStates();
        recordOfEndOf();
        endWithoutPurposes();
        endOverPurposes();
        endWithConsentOfAll();
        endOfLateRecords();
        CHECK.end();
    }

    private static void recordOfStateOf() {
        CHECK.promise(11, RECORD, NO_RECORD, "Returns the state of a record.");
        CHECK.refusesBeside(0, "stateOf", EMPTY, (x, record) -> x.stateOf(record));
        CHECK.refusesBeside(8, "stateOf", MIXED, (x, record) -> x.stateOf(record));
        CHECK.refusesBeside(30, "stateOf", FULL, (x, record) -> x.stateOf(record));
        for (int record = 0; record < 8; record++) {
            CHECK.same("stateOf(" + record + ")", MIXED.get().stateOf(record),
                    record < 4 ? 0 : record < 6 ? 1 : 2);
        }
        CHECK.same("stateOf(0) of 30", FULL.get().stateOf(0), Privacyledger.PRESENT);
        CHECK.same("stateOf(29) of 30", FULL.get().stateOf(29), Privacyledger.PRESENT);
        CHECK.changesNothing("stateOf(4)", MIXED, x -> x.stateOf(4));
    }

    private static void statesOneAfterAnother() {
        CHECK.promise(11, "Returns PRESENT, REQUESTED or ERASED.");
        CHECK.terms(Terms.STATES, Terms.STATE_NUMBERS, Terms.NONE);
        CHECK.same("NONE", Privacyledger.NONE, -1);
        CHECK.same("PRESENT", Privacyledger.PRESENT, 0);
        CHECK.same("REQUESTED", Privacyledger.REQUESTED, 1);
        CHECK.same("ERASED", Privacyledger.ERASED, 2);
        Privacyledger x = FULL.get();
        for (int record : new int[] {0, 29}) {
            CHECK.same("stateOf at first", x.stateOf(record), 0);
        }
        x.close(0);
        x.request(0);
        x.request(5);
        for (int record : new int[] {0, 29}) {
            CHECK.same("stateOf after request", x.stateOf(record), 1);
        }
        CHECK.same("erase()", x.erase(), 29);
        CHECK.same("stateOf after erase", x.stateOf(29), 2);
        CHECK.same("stateOf before its turn", x.stateOf(0), 1);
        CHECK.same("eraseAll(): 24, 12 and 0, and 17, but not 5, which is held", x.eraseAll(), 4);
        CHECK.same("stateOf after eraseAll", x.stateOf(0), 2);
        CHECK.same("stateOf while held", x.stateOf(5), 1);
    }

    private static void requestedUntilErased() {
        CHECK.promise(11, "Returns the state of a record.");
        CHECK.terms(Terms.STAYS_REQUESTED);
        Privacyledger x = new Privacyledger();
        x.addPurpose(5, true);
        x.consent(0, 0, true);
        x.add(0, 1);
        x.consent(0, 0, false);
        CHECK.same("the day begins without consent", x.passDays(1), 1);
        x.consent(0, 0, true);
        x.setRetention(0, 3650);
        CHECK.same("consent and retention come again", x.stateOf(0), 1);
        x.hold(0, 0);
        CHECK.same("held", x.stateOf(0), 1);
        x.passDays(1000);
        CHECK.same("days pass", x.stateOf(0), 1);
        x.close(0);
        CHECK.same("held no more", x.stateOf(0), 1);
        x.erase();
        CHECK.same("erased", x.stateOf(0), 2);
    }

    private static void recordOfSubjectsOf() {
        CHECK.promise(12, RECORD, NO_RECORD, "Returns the set of subjects.");
        CHECK.refusesBeside(0, "subjectsOf", EMPTY, (x, record) -> x.subjectsOf(record));
        CHECK.refusesBeside(8, "subjectsOf", MIXED, (x, record) -> x.subjectsOf(record));
        CHECK.refusesBeside(30, "subjectsOf", FULL, (x, record) -> x.subjectsOf(record));
        int[] due = {0b1, 0b10, 0b11, 0b10, 0b100, 0b100, 0b1000, 0b1000};
        for (int record = 0; record < 8; record++) {
            CHECK.same("subjectsOf(" + record + ")", MIXED.get().subjectsOf(record), due[record]);
        }
        for (int record = 0; record < 30; record++) {
            CHECK.same("subjectsOf(" + record + ") of 30", FULL.get().subjectsOf(record),
                    1 << record % 12);
        }
        CHECK.changesNothing("subjectsOf(2)", MIXED, x -> x.subjectsOf(2));
    }

    private static void subjectsFromOneToTwelve() {
        CHECK.promise(12, "Returns the subjects that a record is of, also when it is erased.");
        CHECK.terms(Terms.SETS);
        Privacyledger x = FULL.get();
        for (int source = 0; source < 9; source++) {
            x.addSource(23, source);
        }
        CHECK.same("of ten", x.subjectsOf(23), (1 << 12) - 1 - (1 << 9) - (1 << 10));
        x.request(11);
        CHECK.same("requested", x.subjectsOf(23), (1 << 12) - 1 - (1 << 9) - (1 << 10));
        CHECK.same("eraseAll(): 23 and 11", x.eraseAll(), 2);
        CHECK.same("erased", x.subjectsOf(23), (1 << 12) - 1 - (1 << 9) - (1 << 10));
        CHECK.same("erased", x.subjectsOf(11), 1 << 11);
        CHECK.same("erased before", x.subjectsOf(10), 1 << 10);
    }

    private static void recordOfBelow() {
        CHECK.promise(13, RECORD, NO_RECORD, "Returns the set of records.");
        CHECK.refusesBeside(0, "below", EMPTY, (x, record) -> x.below(record));
        CHECK.refusesBeside(8, "below", MIXED, (x, record) -> x.below(record));
        CHECK.refusesBeside(30, "below", FULL, (x, record) -> x.below(record));
        CHECK.same("below(0) of 8", MIXED.get().below(0), 0b100);
        CHECK.same("below(7) of 8", MIXED.get().below(7), 0);
        CHECK.same("below(0) of 30", FULL.get().below(0), 1 << 12 | 1 << 24);
        CHECK.same("below(29) of 30", FULL.get().below(29), 0);
        CHECK.changesNothing("below(1)", MIXED, x -> x.below(1));
    }

    private static void whatIsBelow() {
        CHECK.promise(13, "Returns the records below a record, whatever their states.");
        CHECK.terms(Terms.BELOW);
        Privacyledger x = new Privacyledger();
        x.addPurpose(5, false);
        x.add(0, 1);
        CHECK.same("below(0) alone", x.below(0), 0);
        x.add(0, 1);
        CHECK.same("not another root of the subject", x.below(0), 0);
        x.derive(0, 1);
        CHECK.same("what is derived", x.below(0), 0b100);
        CHECK.same("not what it is derived from", x.below(2), 0);
        x.derive(0, 1);
        CHECK.same("two beside each other", x.below(0), 0b1100);
        CHECK.same("not the one beside", x.below(2), 0);
        x.derive(2, 1);
        CHECK.same("below what is below", x.below(0), 0b11100);
        CHECK.same("below what is derived", x.below(2), 0b10000);
        CHECK.same("not below the other root", x.below(1), 0);
        x.addSource(4, 1);
        CHECK.same("with one more source", x.below(1), 0b10000);
        x.addSource(2, 1);
        CHECK.same("with one more source above", x.below(1), 0b10100);
        CHECK.same("not those beside it", x.below(3), 0);
        x.addSource(4, 0);
        CHECK.same("with two ways down", x.below(0), 0b11100);
        for (int record = 5; record < 30; record++) {
            x.derive(record - 1, 1);
        }
        CHECK.same("down to the last", x.below(0), (1 << 30) - 4);
        CHECK.same("the last but one", x.below(28), 1 << 29);
    }

    private static void belowWhateverTheStates() {
        CHECK.promise(13, "Returns the records below a record, whatever their states.");
        CHECK.same("requested", MIXED.get().below(4), 0b100000);
        CHECK.same("erased", MIXED.get().below(6), 0b10000000);
        Privacyledger x = new Privacyledger();
        x.addPurpose(5, false);
        x.addPurpose(50, false);
        x.add(0, 0b10);
        x.derive(0, 0b01);
        x.derive(1, 0b10);
        CHECK.same("passDays(5)", x.passDays(5), 2);
        CHECK.same("below a present one, requested", x.below(0), 0b110);
        CHECK.same("eraseAll()", x.eraseAll(), 2);
        CHECK.same("below a present one, erased", x.below(0), 0b110);
        CHECK.same("derive", x.derive(0, 0b10), 3);
        CHECK.same("below a present one, erased and present", x.below(0), 0b1110);
    }

    private static void recordOfEndOf() {
        CHECK.promise(14, RECORD, NO_RECORD, "Returns the day.");
        CHECK.refusesBeside(0, "endOf", EMPTY, (x, record) -> x.endOf(record));
        CHECK.refusesBeside(8, "endOf", MIXED, (x, record) -> x.endOf(record));
        CHECK.refusesBeside(30, "endOf", FULL, (x, record) -> x.endOf(record));
        CHECK.same("endOf(0) of 8", MIXED.get().endOf(0), 10);
        CHECK.same("endOf(7) of 8", MIXED.get().endOf(7), 10);
        CHECK.same("endOf(0) of 30", FULL.get().endOf(0), 106);
        CHECK.same("endOf(29) of 30", FULL.get().endOf(29), 101);
        CHECK.changesNothing("endOf(3)", MIXED, x -> x.endOf(3));
    }

    private static void endWithoutPurposes() {
        CHECK.promise(14, "Returns the end of a record, as purposes and consents are now.");
        CHECK.terms(Terms.END);
        Privacyledger x = new Privacyledger();
        x.passDays(7);
        x.addPurpose(3650, true);
        x.consent(0, 0, true);
        x.add(0, 1);
        CHECK.same("with consent", x.endOf(0), 3657);
        x.consent(0, 0, false);
        CHECK.same("no consent, no such purpose", x.endOf(0), 7);
        x.passDays(1);
        CHECK.same("no such purpose, a day later", x.endOf(0), 7);
        x.consent(0, 0, true);
        CHECK.same("consent again, when requested", x.endOf(0), 3657);
        x.setRetention(0, 0);
        CHECK.same("a purpose of 0 days", x.endOf(0), 7);
        x.setRetention(0, 1);
        CHECK.same("a purpose of 1 day", x.endOf(0), 8);
    }

    private static void endOverPurposes() {
        CHECK.promise(14, "Returns the end of a record, as purposes and consents are now.");
        CHECK.terms(Terms.END, Terms.RECORDS);
        Privacyledger x = new Privacyledger();
        for (int purpose = 0; purpose < 8; purpose++) {
            x.addPurpose(purpose == 0 || purpose == 7 ? 9 : 5, false);
        }
        x.add(0, 0b01111110);
        x.add(0, 0b00000011);
        x.add(0, 0b11000000);
        x.add(0, 0b11111111);
        CHECK.same("equal retentions", x.endOf(0), 5);
        CHECK.same("the first is the greatest", x.endOf(1), 9);
        CHECK.same("the last is the greatest", x.endOf(2), 9);
        CHECK.same("the greatest twice", x.endOf(3), 9);
        x.setRetention(3, 3650);
        CHECK.same("one between is the greatest", x.endOf(0), 3650);
        CHECK.same("not a purpose of the record", x.endOf(1), 9);
        x.setRetention(0, 0);
        CHECK.same("the other one", x.endOf(1), 5);
        x.setRetention(1, 0);
        CHECK.same("both of 0 days", x.endOf(1), 0);
    }

    private static void endWithConsentOfAll() {
        CHECK.promise(14, "Returns the end of a record, as purposes and consents are now.");
        CHECK.terms(Terms.END);
        Privacyledger x = MIXED.get();
        x.derive(2, 0b011);
        CHECK.same("one of both consents", x.endOf(8), 14);
        x.consent(0, 1, true);
        CHECK.same("both consent", x.endOf(8), 24);
        x.consent(1, 1, false);
        CHECK.same("the other one consents", x.endOf(8), 14);
        x.consent(0, 1, false);
        CHECK.same("none of both consents", x.endOf(8), 14);
        CHECK.same("consent of others does not count", x.endOf(1), 10);
        CHECK.same("no consent, no other purpose", x.endOf(3), 0);
        Privacyledger y = FULL.get();
        for (int source = 0; source < 9; source++) {
            y.addSource(23, source);
        }
        CHECK.same("all ten consent", y.endOf(23), 101);
        y.consent(10, 1, false);
        CHECK.same("of no subject of it", y.endOf(23), 101);
        y.consent(11, 1, false);
        CHECK.same("all but the last consent", y.endOf(23), 100);
        y.consent(11, 1, true);
        y.consent(0, 1, false);
        CHECK.same("all but the first consent", y.endOf(23), 100);
    }

    private static void endOfLateRecords() {
        CHECK.promise(14, "Returns the end of a record, as purposes and consents are now.");
        CHECK.terms(Terms.END);
        Privacyledger x = new Privacyledger();
        x.addPurpose(3650, false);
        x.addPurpose(10, false);
        x.add(0, 0b11);
        x.passDays(1);
        x.derive(0, 0b10);
        for (int count = 0; count < 400; count++) {
            x.passDays(1000);
        }
        CHECK.same("of the first day", x.endOf(0), 3650);
        CHECK.same("of the second day", x.endOf(1), 11);
        x.add(0, 0b11);
        CHECK.same("of day 400001", x.endOf(2), 403651);
        x.setRetention(0, 0);
        CHECK.same("of the first day", x.endOf(0), 10);
        CHECK.same("of day 400001", x.endOf(2), 400011);
    }
}
