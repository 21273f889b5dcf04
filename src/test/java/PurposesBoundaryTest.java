import java.util.List;
import java.util.function.Supplier;

/** Promises 1 to 6 at and beside each boundary that the document names. */
final class PurposesBoundaryTest {
    private static final Check CHECK = new Check();

    private static final Supplier<Privacyledger> EMPTY = Starts.EMPTY;
    private static final Supplier<Privacyledger> MIXED = Starts.MIXED;
    private static final Supplier<Privacyledger> FULL = Starts.FULL;

    private static final int[] TOO_SMALL_OR_LARGE =
            {Integer.MIN_VALUE, -3650, -1, 3651, 3652, Integer.MAX_VALUE};

    public static void main(String[] args) {
        aNewObjectIsEmpty();
        aNewObjectIsAtDayZero();
        retentionOfANewPurpose();
        consentThatANewPurposeNeeds();
        numbersOfNewPurposes();
        aNinthPurpose();
        aNinthPurposeOutOfRange();
        purposeOfSetRetention();
        retentionOfSetRetention();
        setRetentionReachesAllRecords();
        setRetentionOutOfBothRanges();
        subjectAndPurposeOfConsent();
        whatConsentChanges();
        subjectOfConsents();
        fromNoConsentToAll();
        subjectAndPurposeOfDaysWithConsent();
        daysThatAreOver();
        dayWithConsentByItsEnd();
        CHECK.end();
    }

    private static void aNewObjectIsEmpty() {
        CHECK.promise(1, "Creates a ledger without purposes and records.");
        CHECK.same("records()", EMPTY.get().records(), 0);
        CHECK.refusesBounds("stateOf(0)", EMPTY, x -> x.stateOf(0));
        CHECK.refusesBounds("setRetention(0, 5)", EMPTY, x -> x.setRetention(0, 5));
        CHECK.refusesBounds("add(0, 1)", EMPTY, x -> x.add(0, 1));
        CHECK.refusesArgument("add(0, 0)", EMPTY, x -> x.add(0, 0));
        Privacyledger x = EMPTY.get();
        CHECK.same("the first addPurpose", x.addPurpose(5, false), 0);
        CHECK.same("the first add", x.add(0, 1), 0);
        CHECK.same("records() of another ledger", EMPTY.get().records(), 0);
        CHECK.refusesBounds("setRetention(0, 5) of another ledger", EMPTY,
                other -> other.setRetention(0, 5));
    }

    private static void aNewObjectIsAtDayZero() {
        CHECK.promise(1, "Creates a ledger without purposes and records.");
        CHECK.terms(Terms.DAY, Terms.CONSENTS);
        CHECK.same("day()", EMPTY.get().day(), 0);
        for (int subject = 0; subject < 12; subject++) {
            CHECK.same("consents", EMPTY.get().consents(subject), 0);
            Privacyledger x = EMPTY.get();
            x.addPurpose(5, true);
            x.addPurpose(5, false);
            CHECK.same("consents with purposes", x.consents(subject), 0);
        }
    }

    private static void retentionOfANewPurpose() {
        CHECK.promise(2, "`retention`: 0 to 3650 days",
                "Throws `IllegalArgumentException` if retention is out of range");
        for (Supplier<Privacyledger> start : List.of(EMPTY, MIXED)) {
            for (int retention : new int[] {0, 1, 3649, 3650}) {
                Privacyledger x = start.get();
                int purpose = x.addPurpose(retention, false);
                CHECK.same("the retention of addPurpose(" + retention + ", false)",
                        x.setRetention(purpose, 7), retention);
            }
            for (int retention : TOO_SMALL_OR_LARGE) {
                CHECK.refusesArgument("addPurpose(" + retention + ", true)", start,
                        x -> x.addPurpose(retention, true));
                CHECK.refusesArgument("addPurpose(" + retention + ", false)", start,
                        x -> x.addPurpose(retention, false));
            }
        }
    }

    private static void consentThatANewPurposeNeeds() {
        CHECK.promise(2, "`needsConsent`: true if it needs the consent of subjects");
        CHECK.terms(Terms.PURPOSES);
        Privacyledger x = new Privacyledger();
        for (int purpose = 0; purpose < 8; purpose++) {
            x.addPurpose(1, purpose % 7 == 0);
        }
        for (int purpose = 0; purpose < 8; purpose++) {
            int set = 1 << purpose;
            if (purpose % 7 == 0) {
                CHECK.badState("add for a purpose with consent", () -> x.add(0, set));
                x.consent(0, purpose, true);
            }
            CHECK.same("whyNoUse", x.whyNoUse(x.add(0, set), purpose), 0);
        }
    }

    private static void numbersOfNewPurposes() {
        CHECK.promise(2, "Adds a purpose.", "Returns its number.");
        CHECK.terms(Terms.NUMBERS);
        Privacyledger x = new Privacyledger();
        for (int purpose = 0; purpose < 8; purpose++) {
            int number = purpose;
            CHECK.outOfBounds("setRetention before", () -> x.setRetention(number, 1));
            CHECK.same("addPurpose", x.addPurpose(20 + purpose, purpose % 2 == 0), purpose);
            CHECK.same("setRetention", x.setRetention(purpose, 1), 20 + purpose);
        }
    }

    private static void aNinthPurpose() {
        CHECK.promise(2, "Throws `IllegalStateException` if there are 8 purposes");
        Privacyledger x = new Privacyledger();
        for (int purpose = 0; purpose < 7; purpose++) {
            x.addPurpose(5, false);
        }
        CHECK.same("the eighth addPurpose", x.addPurpose(3650, true), 7);
        CHECK.badState("the ninth addPurpose", () -> x.addPurpose(0, false));
        CHECK.badState("the ninth addPurpose again", () -> x.addPurpose(3650, true));
        CHECK.refusesState("addPurpose(0, true)", FULL, full -> full.addPurpose(0, true));
        CHECK.refusesState("addPurpose(3650, false)", FULL, full -> full.addPurpose(3650, false));
    }

    private static void aNinthPurposeOutOfRange() {
        CHECK.promise(2, "Throws `IllegalArgumentException` if retention is out of range",
                "Throws `IllegalStateException` if there are 8 purposes");
        CHECK.terms(Terms.REFUSED_CALLS);
        for (int retention : TOO_SMALL_OR_LARGE) {
            CHECK.refusesArgument("a ninth purpose of " + retention + " days", FULL,
                    x -> x.addPurpose(retention, false));
        }
    }

    private static void purposeOfSetRetention() {
        CHECK.promise(3, "`purpose`: the number of a purpose",
                "Throws `IndexOutOfBoundsException` if there is no such purpose");
        CHECK.refusesBeside(0, "setRetention", EMPTY, (x, purpose) -> x.setRetention(purpose, 5));
        CHECK.refusesBeside(3, "setRetention", MIXED, (x, purpose) -> x.setRetention(purpose, 5));
        CHECK.refusesBeside(8, "setRetention", FULL, (x, purpose) -> x.setRetention(purpose, 5));
        CHECK.same("setRetention(0, 5) of 3", MIXED.get().setRetention(0, 5), 10);
        CHECK.same("setRetention(2, 5) of 3", MIXED.get().setRetention(2, 5), 0);
        CHECK.same("setRetention(0, 5) of 8", FULL.get().setRetention(0, 5), 100);
        CHECK.same("setRetention(7, 5) of 8", FULL.get().setRetention(7, 5), 107);
    }

    private static void retentionOfSetRetention() {
        CHECK.promise(3, "`retention`: 0 to 3650 days", "Returns the retention before.",
                "Throws `IllegalArgumentException` if retention is out of range");
        Privacyledger x = MIXED.get();
        int before = 10;
        for (int retention : new int[] {0, 1, 3649, 3650, 3650, 0, 0}) {
            CHECK.same("setRetention(0, " + retention + ")", x.setRetention(0, retention), before);
            before = retention;
        }
        for (int retention : TOO_SMALL_OR_LARGE) {
            CHECK.refusesArgument("setRetention(0, " + retention + ")", MIXED,
                    y -> y.setRetention(0, retention));
            CHECK.refusesArgument("setRetention(7, " + retention + ")", FULL,
                    y -> y.setRetention(7, retention));
        }
    }

    private static void setRetentionReachesAllRecords() {
        CHECK.promise(3, "Changes the retention of a purpose, for all records.");
        Privacyledger x = MIXED.get();
        x.setRetention(0, 3650);
        int[] ends = {3650, 3650, 3650, 20, 3650, 3650, 3650, 3650};
        for (int record = 0; record < 8; record++) {
            CHECK.same("endOf(" + record + ")", x.endOf(record), ends[record]);
        }
        x.setRetention(0, 4);
        CHECK.same("over as the day is reached", x.due(), 0b101);
        x.setRetention(0, 5);
        CHECK.same("open once more", x.due(), 0);
        CHECK.same("retention of a purpose beside it", x.setRetention(1, 20), 20);
        CHECK.same("retention of a purpose beside it", x.setRetention(2, 0), 0);
    }

    private static void setRetentionOutOfBothRanges() {
        CHECK.promise(3, "Throws `IndexOutOfBoundsException` if there is no such purpose",
                "Throws `IllegalArgumentException` if retention is out of range");
        CHECK.terms(Terms.REFUSED_CALLS);
        for (int retention : TOO_SMALL_OR_LARGE) {
            CHECK.refusesBounds("setRetention(0, " + retention + ")", EMPTY,
                    x -> x.setRetention(0, retention));
            CHECK.refusesBounds("setRetention(3, " + retention + ")", MIXED,
                    x -> x.setRetention(3, retention));
            CHECK.refusesBounds("setRetention(-1, " + retention + ")", MIXED,
                    x -> x.setRetention(-1, retention));
        }
    }

    private static void subjectAndPurposeOfConsent() {
        CHECK.promise(4, "`subject`: 0 to 11", "`purpose`: the number of a purpose",
                "Throws `IndexOutOfBoundsException` if there is no such subject or purpose");
        for (boolean isGiven : new boolean[] {true, false}) {
            CHECK.refusesBeside(12, "consent of a subject", MIXED,
                    (x, subject) -> x.consent(subject, 0, isGiven));
            CHECK.refusesBeside(0, "consent to a purpose", EMPTY,
                    (x, purpose) -> x.consent(0, purpose, isGiven));
            CHECK.refusesBeside(3, "consent to a purpose", MIXED,
                    (x, purpose) -> x.consent(11, purpose, isGiven));
            CHECK.refusesBeside(8, "consent to a purpose", FULL,
                    (x, purpose) -> x.consent(0, purpose, isGiven));
            CHECK.refusesBounds("consent of no subject to no purpose", FULL,
                    x -> x.consent(12, 8, isGiven));
        }
        Privacyledger x = FULL.get();
        for (int subject : new int[] {0, 11}) {
            CHECK.same("consent to purpose 0", x.consent(subject, 0, true), true);
            CHECK.same("consent to purpose 7", x.consent(subject, 7, true), true);
            CHECK.same("consents", x.consents(subject), 0b10000011);
        }
        CHECK.same("consents beside", x.consents(1), 0b10);
        CHECK.same("consents beside", x.consents(10), 0b10);
    }

    private static void whatConsentChanges() {
        CHECK.promise(4, "Gives or withdraws the consent of a subject to a purpose.",
                "`isGiven`: true to give it, false to withdraw it",
                "Returns true if that changes something.");
        Privacyledger x = new Privacyledger();
        for (int purpose = 0; purpose < 8; purpose++) {
            x.addPurpose(10, purpose % 2 == 0);
            CHECK.same("withdraw what was never given", x.consent(0, purpose, false), false);
            CHECK.same("give", x.consent(0, purpose, true), true);
            CHECK.same("give what is given", x.consent(0, purpose, true), false);
            CHECK.same("withdraw", x.consent(0, purpose, false), true);
            CHECK.same("withdraw what is withdrawn", x.consent(0, purpose, false), false);
            CHECK.same("give once more", x.consent(0, purpose, true), true);
        }
        CHECK.changesNothing("give what is given", MIXED, y -> y.consent(1, 1, true));
        CHECK.changesNothing("withdraw what is not given", MIXED, y -> y.consent(0, 1, false));
    }

    private static void subjectOfConsents() {
        CHECK.promise(5, "`subject`: 0 to 11",
                "Throws `IndexOutOfBoundsException` if there is no such subject");
        for (Supplier<Privacyledger> start : Starts.ALL) {
            CHECK.refusesBeside(12, "consents", start, (x, subject) -> x.consents(subject));
        }
        CHECK.same("consents(0)", MIXED.get().consents(0), 0b100);
        CHECK.same("consents(1)", MIXED.get().consents(1), 0b010);
        CHECK.same("consents(10)", MIXED.get().consents(10), 0);
        CHECK.same("consents(11)", MIXED.get().consents(11), 0b010);
    }

    private static void fromNoConsentToAll() {
        CHECK.promise(5, "Returns the purposes to which a subject consents.",
                "Returns the set of purposes.");
        CHECK.terms(Terms.SETS);
        Privacyledger x = new Privacyledger();
        int set = 0;
        for (int purpose = 0; purpose < 8; purpose++) {
            x.addPurpose(purpose == 3 ? 0 : 10, purpose < 4);
            CHECK.same("consents", x.consents(11), set);
            x.consent(11, purpose, true);
            set |= 1 << purpose;
            CHECK.same("consents", x.consents(11), set);
        }
        CHECK.same("all eight", x.consents(11), 255);
        x.consent(11, 7, false);
        CHECK.same("all but the last", x.consents(11), 127);
        x.consent(11, 0, false);
        CHECK.same("all but the first and the last", x.consents(11), 126);
        CHECK.changesNothing("consents(1)", MIXED, y -> y.consents(1));
    }

    private static void subjectAndPurposeOfDaysWithConsent() {
        CHECK.promise(6, "`subject`: 0 to 11", "`purpose`: the number of a purpose",
                "Throws `IndexOutOfBoundsException` if there is no such subject or purpose");
        CHECK.refusesBeside(12, "daysWithConsent of a subject", MIXED,
                (x, subject) -> x.daysWithConsent(subject, 0));
        CHECK.refusesBeside(0, "daysWithConsent to a purpose", EMPTY,
                (x, purpose) -> x.daysWithConsent(0, purpose));
        CHECK.refusesBeside(3, "daysWithConsent to a purpose", MIXED,
                (x, purpose) -> x.daysWithConsent(1, purpose));
        CHECK.refusesBeside(8, "daysWithConsent to a purpose", FULL,
                (x, purpose) -> x.daysWithConsent(11, purpose));
        CHECK.refusesBounds("daysWithConsent of no subject to no purpose", FULL,
                x -> x.daysWithConsent(12, 8));
        CHECK.same("daysWithConsent(0, 0)", MIXED.get().daysWithConsent(0, 0), 0);
        CHECK.same("daysWithConsent(0, 2)", MIXED.get().daysWithConsent(0, 2), 4);
        CHECK.same("daysWithConsent(11, 1)", MIXED.get().daysWithConsent(11, 1), 4);
        CHECK.same("daysWithConsent(11, 7)", FULL.get().daysWithConsent(11, 7), 0);
        CHECK.same("daysWithConsent(11, 1)", FULL.get().daysWithConsent(11, 1), 3);
    }

    private static void daysThatAreOver() {
        CHECK.promise(6, "Returns on how many of the days that are over there was the consent of a"
                + " subject to a purpose.", "Returns the days with consent.");
        Privacyledger x = new Privacyledger();
        x.passDays(1000);
        x.addPurpose(0, true);
        CHECK.same("days before the purpose", x.daysWithConsent(0, 0), 0);
        x.consent(0, 0, true);
        CHECK.same("a day that is not over", x.daysWithConsent(0, 0), 0);
        x.passDays(1);
        CHECK.same("one day", x.daysWithConsent(0, 0), 1);
        x.passDays(999);
        CHECK.same("a thousand days", x.daysWithConsent(0, 0), 1000);
        x.consent(0, 0, false);
        CHECK.same("days that were counted", x.daysWithConsent(0, 0), 1000);
        x.passDays(1000);
        CHECK.same("days without consent", x.daysWithConsent(0, 0), 1000);
        CHECK.changesNothing("daysWithConsent(1, 1)", MIXED, y -> y.daysWithConsent(1, 1));
    }

    private static void dayWithConsentByItsEnd() {
        CHECK.promise(6, "Returns on how many of the days that are over there was the consent of a"
                + " subject to a purpose.");
        CHECK.terms(Terms.DAYS_WITH_CONSENT);
        Privacyledger x = new Privacyledger();
        x.addPurpose(5, true);
        x.addPurpose(5, false);
        for (int purpose = 0; purpose < 2; purpose++) {
            x.consent(0, purpose, true);
            x.consent(0, purpose, false);
            x.consent(1, purpose, true);
            x.consent(1, purpose, false);
            x.consent(1, purpose, true);
        }
        x.passDays(1);
        for (int purpose = 0; purpose < 2; purpose++) {
            CHECK.same("given, then withdrawn", x.daysWithConsent(0, purpose), 0);
            CHECK.same("withdrawn, then given", x.daysWithConsent(1, purpose), 1);
            x.consent(0, purpose, true);
            x.consent(1, purpose, false);
            CHECK.same("given as the day has begun", x.daysWithConsent(0, purpose), 0);
            CHECK.same("withdrawn as the day has begun", x.daysWithConsent(1, purpose), 1);
        }
        x.passDays(2);
        CHECK.same("the first day and two more", x.daysWithConsent(0, 0), 2);
        CHECK.same("the first day alone", x.daysWithConsent(1, 0), 1);
    }
}
