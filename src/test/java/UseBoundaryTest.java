import java.util.function.Supplier;

/** Promises 15 to 17 at and beside each boundary that the document names. */
final class UseBoundaryTest {
    private static final Check CHECK = new Check();

    private static final Supplier<Privacyledger> EMPTY = Starts.EMPTY;
    private static final Supplier<Privacyledger> MIXED = Starts.MIXED;
    private static final Supplier<Privacyledger> FULL = Starts.FULL;

    private static final String RECORD = "`record`: the number of a record";
    private static final String PURPOSE = "`purpose`: the number of a purpose";
    private static final String NO_RECORD_OR_PURPOSE =
            "Throws `IndexOutOfBoundsException` if there is no such record or purpose";
    private static final String REASONS = "Returns 0 if it may be used; otherwise the first of"
            + " these that is so: 1 it is erased; 2 it is requested; 3 it is not for this purpose;"
            + " 4 the purpose needs consent, and not all subjects of the record consent to it; 5"
            + " its retention is over.";

    public static void main(String[] args) {
        recordAndPurposeOfWhyNoUse();
        reasonsFromStates();
        reasonFromPurposes();
        reasonFromConsents();
        reasonFromRetention();
        firstOfTheReasons();
        recordAndPurposeOfUse();
        useForEachReason();
        useWithTwoExceptions();
        howOftenARecordWasUsed();
        subjectAndPurposeOfUses();
        usesOfSubjects();
        CHECK.end();
    }

    private static void recordAndPurposeOfWhyNoUse() {
        CHECK.promise(15, "Tells why a record must not be used for a purpose.", RECORD, PURPOSE,
                NO_RECORD_OR_PURPOSE);
        CHECK.refusesBounds("whyNoUse(0, 0)", EMPTY, x -> x.whyNoUse(0, 0));
        CHECK.refusesBeside(8, "whyNoUse of a record", MIXED, (x, n) -> x.whyNoUse(n, 0));
        CHECK.refusesBeside(30, "whyNoUse of a record", FULL, (x, n) -> x.whyNoUse(n, 0));
        CHECK.refusesBeside(3, "whyNoUse for a purpose", MIXED, (x, n) -> x.whyNoUse(0, n));
        CHECK.refusesBeside(3, "whyNoUse, requested", MIXED, (x, n) -> x.whyNoUse(4, n));
        CHECK.refusesBeside(3, "whyNoUse, erased", MIXED, (x, n) -> x.whyNoUse(7, n));
        CHECK.refusesBeside(8, "whyNoUse for a purpose", FULL, (x, n) -> x.whyNoUse(29, n));
        CHECK.refusesBounds("no record and no purpose", FULL, x -> x.whyNoUse(30, 8));
        CHECK.same("whyNoUse(0, 0)", FULL.get().whyNoUse(0, 0), 0);
        CHECK.same("whyNoUse(0, 7)", FULL.get().whyNoUse(0, 7), 4);
        CHECK.same("whyNoUse(29, 0)", FULL.get().whyNoUse(29, 0), 0);
        CHECK.same("whyNoUse(29, 7)", FULL.get().whyNoUse(29, 7), 3);
        CHECK.changesNothing("whyNoUse(0, 0)", MIXED, x -> x.whyNoUse(0, 0));
    }

    private static void reasonsFromStates() {
        CHECK.promise(15, REASONS);
        int[] due = {0, 0, 0, 3, 2, 2, 1, 1};
        for (int record = 0; record < 8; record++) {
            CHECK.same("whyNoUse(" + record + ", 0)", MIXED.get().whyNoUse(record, 0), due[record]);
        }
        Privacyledger x = MIXED.get();
        x.setRetention(0, 4);
        CHECK.same("due, but present", x.whyNoUse(0, 0), 5);
        x.setRetention(0, 5);
        CHECK.same("not due any more", x.whyNoUse(0, 0), 0);
        CHECK.same("held, but present", x.whyNoUse(1, 0), 0);
    }

    private static void reasonFromPurposes() {
        CHECK.promise(15, REASONS);
        Privacyledger x = new Privacyledger();
        for (int purpose = 0; purpose < 8; purpose++) {
            x.addPurpose(5, false);
        }
        x.add(0, 0b00000001);
        x.add(0, 0b10000000);
        x.add(0, 0b01111110);
        for (int purpose = 0; purpose < 8; purpose++) {
            CHECK.same("for the first alone", x.whyNoUse(0, purpose), purpose == 0 ? 0 : 3);
            CHECK.same("for the last alone", x.whyNoUse(1, purpose), purpose == 7 ? 0 : 3);
            CHECK.same("for all but these", x.whyNoUse(2, purpose), purpose % 7 == 0 ? 3 : 0);
        }
    }

    private static void reasonFromConsents() {
        CHECK.promise(15, REASONS);
        CHECK.terms(Terms.OPEN);
        Privacyledger x = MIXED.get();
        x.derive(2, 0b011);
        CHECK.same("one of both consents", x.whyNoUse(8, 1), 4);
        CHECK.same("a purpose that needs none", x.whyNoUse(8, 0), 0);
        x.consent(0, 1, true);
        CHECK.same("both consent", x.whyNoUse(8, 1), 0);
        x.consent(1, 1, false);
        CHECK.same("the other one consents", x.whyNoUse(8, 1), 4);
        x.consent(0, 1, false);
        CHECK.same("none of both consents", x.whyNoUse(8, 1), 4);
        Privacyledger y = FULL.get();
        for (int source = 0; source < 9; source++) {
            y.addSource(23, source);
        }
        CHECK.same("all ten consent", y.whyNoUse(23, 1), 0);
        for (int subject = 0; subject < 12; subject++) {
            y.consent(subject, 1, false);
            CHECK.same("all but " + subject, y.whyNoUse(23, 1),
                    subject == 9 || subject == 10 ? 0 : 4);
            y.consent(subject, 1, true);
        }
    }

    private static void reasonFromRetention() {
        CHECK.promise(15, REASONS);
        CHECK.terms(Terms.OPEN);
        Privacyledger x = new Privacyledger();
        x.addPurpose(10, false);
        x.addPurpose(3650, false);
        x.addPurpose(0, false);
        x.addPurpose(1, false);
        x.passDays(3);
        x.add(0, 0b1111);
        CHECK.same("0 days, on its day", x.whyNoUse(0, 2), 5);
        CHECK.same("1 day, on its day", x.whyNoUse(0, 3), 0);
        x.passDays(1);
        CHECK.same("1 day, on the next day", x.whyNoUse(0, 3), 5);
        x.passDays(8);
        CHECK.same("10 days, on day 12 of 13", x.whyNoUse(0, 0), 0);
        x.passDays(1);
        CHECK.same("10 days, on day 13", x.whyNoUse(0, 0), 5);
        x.passDays(1);
        CHECK.same("10 days, on day 14", x.whyNoUse(0, 0), 5);
        CHECK.same("3650 days, on day 14", x.whyNoUse(0, 1), 0);
        x.setRetention(0, 12);
        CHECK.same("12 days, on day 14", x.whyNoUse(0, 0), 0);
        x.setRetention(0, 11);
        CHECK.same("11 days, on day 14", x.whyNoUse(0, 0), 5);
        x.passDays(1000);
        x.passDays(1000);
        x.passDays(1000);
        x.passDays(638);
        CHECK.same("3650 days, on day 3652 of 3653", x.whyNoUse(0, 1), 0);
        CHECK.same("the day after", x.passDays(1), 1);
        CHECK.same("nothing is open, so it is requested", x.whyNoUse(0, 1), 2);
    }

    private static void firstOfTheReasons() {
        CHECK.promise(15, REASONS);
        Privacyledger x = MIXED.get();
        CHECK.same("erased, and not for it", x.whyNoUse(6, 1), 1);
        CHECK.same("requested, and not for it", x.whyNoUse(4, 1), 2);
        CHECK.same("not for it, and no consent", x.whyNoUse(0, 1), 3);
        CHECK.same("not for it, and over", x.whyNoUse(0, 2), 3);
        x.add(10, 0b111);
        CHECK.same("over alone", x.whyNoUse(8, 2), 5);
        CHECK.same("no consent alone", x.whyNoUse(8, 1), 4);
        x.setRetention(1, 0);
        CHECK.same("no consent, and over", x.whyNoUse(8, 1), 4);
        CHECK.same("not for it, no consent, and over", x.whyNoUse(0, 1), 3);
        x.consent(10, 1, true);
        CHECK.same("over with consent", x.whyNoUse(8, 1), 5);
        x.setRetention(0, 0);
        CHECK.same("erased, and over", x.whyNoUse(6, 0), 1);
        CHECK.same("requested, and over", x.whyNoUse(4, 0), 2);
    }

    private static void recordAndPurposeOfUse() {
        CHECK.promise(16, "Uses a record for a purpose.", RECORD, PURPOSE, NO_RECORD_OR_PURPOSE);
        CHECK.refusesBounds("use(0, 0)", EMPTY, x -> x.use(0, 0));
        CHECK.refusesBeside(8, "use of a record", MIXED, (x, n) -> x.use(n, 0));
        CHECK.refusesBeside(30, "use of a record", FULL, (x, n) -> x.use(n, 0));
        CHECK.refusesBeside(3, "use for a purpose", MIXED, (x, n) -> x.use(0, n));
        CHECK.refusesBeside(8, "use for a purpose", FULL, (x, n) -> x.use(0, n));
        CHECK.refusesBounds("no record and no purpose", FULL, x -> x.use(30, 8));
        Privacyledger x = FULL.get();
        x.consent(0, 7, true);
        CHECK.same("use(0, 0)", x.use(0, 0), 1);
        CHECK.same("use(0, 7)", x.use(0, 7), 1);
        CHECK.same("use(29, 0)", x.use(29, 0), 1);
        CHECK.same("use(29, 1)", x.use(29, 1), 2);
    }

    private static void useForEachReason() {
        CHECK.promise(16, "Throws `IllegalStateException` if it must not be used for it");
        CHECK.refusesState("erased", MIXED, x -> x.use(6, 0));
        CHECK.refusesState("erased, used before", MIXED, x -> x.use(7, 0));
        CHECK.refusesState("requested", MIXED, x -> x.use(5, 0));
        CHECK.refusesState("not for this purpose", MIXED, x -> x.use(0, 1));
        Supplier<Privacyledger> ten = () -> {
            Privacyledger x = MIXED.get();
            x.add(10, 0b111);
            return x;
        };
        CHECK.refusesState("no consent", ten, x -> x.use(8, 1));
        CHECK.refusesState("its retention is over", ten, x -> x.use(8, 2));
        CHECK.same("none of these", ten.get().use(8, 0), 1);
        Privacyledger x = ten.get();
        x.consent(10, 1, true);
        CHECK.same("with consent", x.use(8, 1), 1);
        x.setRetention(2, 1);
        CHECK.same("its retention is not over", x.use(8, 2), 1);
        x.passDays(1);
        CHECK.badState("now it is over", () -> x.use(8, 2));
        CHECK.same("another one is not over", x.use(8, 1), 2);
    }

    private static void useWithTwoExceptions() {
        CHECK.promise(16, NO_RECORD_OR_PURPOSE,
                "Throws `IllegalStateException` if it must not be used for it");
        CHECK.terms(Terms.REFUSED_CALLS);
        CHECK.refusesBounds("no purpose, and erased", MIXED, x -> x.use(6, 3));
        CHECK.refusesBounds("no purpose, and erased", MIXED, x -> x.use(7, -1));
        CHECK.refusesBounds("no purpose, and requested", MIXED, x -> x.use(4, 3));
        CHECK.refusesBounds("no purpose, and not for it", MIXED, x -> x.use(0, 3));
        CHECK.refusesBounds("no purpose, and erased", FULL, x -> x.use(10, 8));
        CHECK.refusesBounds("no purpose, and requested", FULL, x -> x.use(9, 32));
    }

    private static void howOftenARecordWasUsed() {
        CHECK.promise(16, "Returns how often this record has been used for this purpose then.");
        Privacyledger x = FULL.get();
        x.consent(1, 7, true);
        for (int time = 1; time <= 100; time++) {
            CHECK.same("use(1, 7)", x.use(1, 7), time);
        }
        CHECK.same("the record beside", x.use(2, 0), 1);
        CHECK.same("the purpose beside", x.use(1, 6), 1);
        CHECK.same("the same record and purpose", x.use(1, 7), 101);
        CHECK.badState("a refused use", () -> x.use(2, 7));
        x.consent(2, 7, true);
        CHECK.same("the first that is not refused", x.use(2, 7), 1);
        x.consent(1, 7, false);
        CHECK.badState("a refused use", () -> x.use(1, 7));
        x.consent(1, 7, true);
        CHECK.same("a refused one does not count", x.use(1, 7), 102);
        CHECK.same("used before the others", x.use(29, 1), 2);
    }

    private static void subjectAndPurposeOfUses() {
        CHECK.promise(17, "`subject`: 0 to 11", PURPOSE,
                "Throws `IndexOutOfBoundsException` if there is no such subject or purpose");
        CHECK.refusesBeside(12, "uses of a subject", MIXED, (x, n) -> x.uses(n, 0));
        CHECK.refusesBeside(12, "uses of a subject", FULL, (x, n) -> x.uses(n, 7));
        CHECK.refusesBeside(0, "uses for a purpose", EMPTY, (x, n) -> x.uses(0, n));
        CHECK.refusesBeside(3, "uses for a purpose", MIXED, (x, n) -> x.uses(0, n));
        CHECK.refusesBeside(8, "uses for a purpose", FULL, (x, n) -> x.uses(11, n));
        CHECK.refusesBounds("no subject and no purpose", FULL, x -> x.uses(12, 8));
        Privacyledger x = FULL.get();
        x.consent(11, 7, true);
        x.use(11, 7);
        x.use(0, 0);
        CHECK.same("uses(0, 0)", x.uses(0, 0), 1);
        CHECK.same("uses(11, 7)", x.uses(11, 7), 1);
        CHECK.same("uses(11, 0)", x.uses(11, 0), 0);
        CHECK.same("uses(0, 7)", x.uses(0, 7), 0);
    }

    private static void usesOfSubjects() {
        CHECK.promise(17, "Returns how often records that are of a subject now, erased ones too,"
                + " were used for a purpose.", "Returns how often.");
        CHECK.same("of two uses of one record", MIXED.get().uses(0, 0), 2);
        CHECK.same("of an erased record", MIXED.get().uses(3, 0), 1);
        CHECK.same("of a record beside", MIXED.get().uses(1, 0), 0);
        CHECK.same("of a derived record", MIXED.get().uses(1, 1), 1);
        CHECK.same("of nobody's record", MIXED.get().uses(11, 0), 0);
        Privacyledger x = MIXED.get();
        CHECK.same("use(2, 0), of both", x.use(2, 0), 1);
        CHECK.same("counts for the one", x.uses(0, 0), 3);
        CHECK.same("counts for the other", x.uses(1, 0), 1);
        CHECK.same("before a source of 0", x.uses(0, 1), 0);
        CHECK.same("addSource(3, 0)", x.addSource(3, 0), 2);
        CHECK.same("with a source of 0", x.uses(0, 1), 1);
        CHECK.same("of 1 as before", x.uses(1, 1), 1);
        x.request(0);
        CHECK.same("of requested records", x.uses(0, 0), 3);
        x.eraseAll();
        CHECK.same("of erased records", x.uses(0, 0), 3);
        CHECK.changesNothing("uses(0, 0)", MIXED, y -> y.uses(0, 0));
    }
}
