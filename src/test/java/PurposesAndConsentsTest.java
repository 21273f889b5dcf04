/** Promises 1 to 6. */
final class PurposesAndConsentsTest {
    private static final Check CHECK = new Check();

    public static void main(String[] args) {
        promise01NewObject();
        promise02AddPurpose();
        promise02EightPurposes();
        promise03SetRetention();
        promise03SetRetentionCountsForAllRecords();
        promise04Consent();
        promise05Consents();
        promise06DaysWithConsent();
        promise06DayCountsByItsEnd();
        CHECK.end();
    }

    private static void promise01NewObject() {
        Privacyledger x = new Privacyledger();
        CHECK.same("records", x.records(), 0);
        CHECK.same("day", x.day(), 0);
        CHECK.same("nextEnd", x.nextEnd(), Privacyledger.NONE);
        CHECK.same("held", x.held(), 0);
        CHECK.same("due", x.due(), 0);
        CHECK.same("erase", x.erase(), Privacyledger.NONE);
        CHECK.same("eraseAll", x.eraseAll(), 0);
        for (int subject = 0; subject < 12; subject++) {
            CHECK.same("consents", x.consents(subject), 0);
            CHECK.same("traces", x.traces(subject), 0);
            CHECK.same("tracesFromRoots", x.tracesFromRoots(subject), 0);
            CHECK.same("request", x.request(subject), 0);
        }
        CHECK.outOfBounds("no purpose", () -> x.setRetention(0, 1));
        CHECK.outOfBounds("no purpose", () -> x.consent(0, 0, true));
        CHECK.outOfBounds("no record", () -> x.stateOf(0));
        CHECK.same("passDays", x.passDays(1000), 0);
        x.addPurpose(5, false);
        CHECK.same("a second object is its own", new Privacyledger().day(), 0);
        CHECK.outOfBounds("a second object is its own",
                () -> new Privacyledger().setRetention(0, 1));
    }

    private static void promise02AddPurpose() {
        Privacyledger x = new Privacyledger();
        CHECK.badArgument("addPurpose(-1)", () -> x.addPurpose(-1, false));
        CHECK.badArgument("addPurpose(3651)", () -> x.addPurpose(3651, true));
        CHECK.badArgument("addPurpose(least)", () -> x.addPurpose(Integer.MIN_VALUE, true));
        CHECK.badArgument("addPurpose(greatest)", () -> x.addPurpose(Integer.MAX_VALUE, true));
        CHECK.same("addPurpose(0)", x.addPurpose(0, false), 0);
        CHECK.same("addPurpose(3650)", x.addPurpose(3650, true), 1);
        CHECK.same("addPurpose(7)", x.addPurpose(7, false), 2);
        CHECK.same("retention 0", x.setRetention(0, 0), 0);
        CHECK.same("retention 1", x.setRetention(1, 3650), 3650);
        CHECK.badState("needs consent", () -> x.add(0, 0b010));
        CHECK.same("needs no consent", x.add(0, 0b100), 0);
    }

    private static void promise02EightPurposes() {
        Privacyledger x = new Privacyledger();
        for (int purpose = 0; purpose < 8; purpose++) {
            CHECK.same("addPurpose", x.addPurpose(10 + purpose, false), purpose);
        }
        CHECK.badState("ninth", () -> x.addPurpose(10, false));
        CHECK.badArgument("ninth, out of range", () -> x.addPurpose(3651, false));
        CHECK.badArgument("ninth, out of range", () -> x.addPurpose(-1, false));
        CHECK.outOfBounds("purpose 8", () -> x.setRetention(8, 1));
        CHECK.same("all eight", x.add(0, 255), 0);
        CHECK.outOfBounds("a ninth bit", () -> x.add(0, 256));
        CHECK.same("end", x.endOf(0), 17);
    }

    private static void promise03SetRetention() {
        Privacyledger x = new Privacyledger();
        x.addPurpose(30, false);
        CHECK.same("setRetention", x.setRetention(0, 3650), 30);
        CHECK.same("setRetention", x.setRetention(0, 0), 3650);
        CHECK.same("setRetention", x.setRetention(0, 5), 0);
        CHECK.outOfBounds("no purpose", () -> x.setRetention(1, 5));
        CHECK.outOfBounds("no purpose", () -> x.setRetention(-1, 5));
        CHECK.outOfBounds("no purpose, out of range", () -> x.setRetention(1, -1));
        CHECK.badArgument("out of range", () -> x.setRetention(0, -1));
        CHECK.badArgument("out of range", () -> x.setRetention(0, 3651));
        CHECK.same("not changed by a throw", x.setRetention(0, 6), 5);
    }

    private static void promise03SetRetentionCountsForAllRecords() {
        Privacyledger x = new Privacyledger();
        x.addPurpose(10, false);
        x.addPurpose(0, false);
        x.add(0, 1);
        x.passDays(4);
        x.add(1, 1);
        x.setRetention(0, 3);
        CHECK.same("end of the old one", x.endOf(0), 3);
        CHECK.same("end of the new one", x.endOf(1), 7);
        CHECK.same("due", x.due(), 0b01);
        CHECK.same("still present", x.stateOf(0), Privacyledger.PRESENT);
        x.setRetention(0, 5);
        CHECK.same("open again", x.due(), 0);
        CHECK.same("may be used again", x.whyNoUse(0, 0), 0);
        CHECK.badState("other purpose is not changed", () -> x.add(0, 0b10));
    }

    private static void promise04Consent() {
        Privacyledger x = new Privacyledger();
        x.addPurpose(10, true);
        x.addPurpose(10, false);
        CHECK.same("withdraw what is not given", x.consent(0, 0, false), false);
        CHECK.same("give", x.consent(0, 0, true), true);
        CHECK.same("give again", x.consent(0, 0, true), false);
        CHECK.same("give, needs none", x.consent(11, 1, true), true);
        CHECK.same("withdraw", x.consent(0, 0, false), true);
        CHECK.same("withdraw again", x.consent(0, 0, false), false);
        CHECK.same("others stay", x.consents(11), 0b10);
        CHECK.outOfBounds("subject 12", () -> x.consent(12, 0, true));
        CHECK.outOfBounds("subject -1", () -> x.consent(-1, 0, true));
        CHECK.outOfBounds("purpose 2", () -> x.consent(0, 2, true));
        CHECK.outOfBounds("purpose -1", () -> x.consent(0, -1, true));
        CHECK.outOfBounds("purpose 32", () -> x.consent(0, 32, true));
        CHECK.outOfBounds("not given", () -> x.consent(0, 2, false));
    }

    private static void promise05Consents() {
        Privacyledger x = new Privacyledger();
        for (int purpose = 0; purpose < 8; purpose++) {
            x.addPurpose(10, purpose % 2 == 0);
        }
        x.consent(3, 0, true);
        x.consent(3, 1, true);
        x.consent(3, 7, true);
        x.consent(4, 2, true);
        CHECK.same("consents(3)", x.consents(3), 0b10000011);
        CHECK.same("consents(4)", x.consents(4), 0b100);
        CHECK.same("consents(5)", x.consents(5), 0);
        x.consent(3, 1, false);
        CHECK.same("consents(3)", x.consents(3), 0b10000001);
        CHECK.outOfBounds("subject 12", () -> x.consents(12));
        CHECK.outOfBounds("subject -1", () -> x.consents(-1));
    }

    private static void promise06DaysWithConsent() {
        Privacyledger x = new Privacyledger();
        x.addPurpose(10, true);
        x.addPurpose(0, false);
        x.consent(2, 0, true);
        x.consent(11, 1, true);
        CHECK.same("no day is over", x.daysWithConsent(2, 0), 0);
        x.passDays(1);
        CHECK.same("one day", x.daysWithConsent(2, 0), 1);
        x.passDays(1000);
        CHECK.same("days go on after the retention", x.daysWithConsent(2, 0), 1001);
        CHECK.same("needs none", x.daysWithConsent(11, 1), 1001);
        CHECK.same("other subject", x.daysWithConsent(3, 0), 0);
        CHECK.same("other purpose", x.daysWithConsent(2, 1), 0);
        x.consent(2, 0, false);
        x.passDays(3);
        x.consent(2, 0, true);
        x.passDays(2);
        CHECK.same("with a gap", x.daysWithConsent(2, 0), 1003);
        CHECK.outOfBounds("subject 12", () -> x.daysWithConsent(12, 0));
        CHECK.outOfBounds("subject -1", () -> x.daysWithConsent(-1, 0));
        CHECK.outOfBounds("purpose 2", () -> x.daysWithConsent(0, 2));
        CHECK.outOfBounds("purpose -1", () -> x.daysWithConsent(1, -1));
    }

    private static void promise06DayCountsByItsEnd() {
        Privacyledger x = new Privacyledger();
        x.addPurpose(10, true);
        x.consent(0, 0, true);
        x.consent(0, 0, false);
        x.passDays(1);
        CHECK.same("withdrawn within the day", x.daysWithConsent(0, 0), 0);
        x.consent(0, 0, true);
        CHECK.same("the day is not over", x.daysWithConsent(0, 0), 0);
        x.passDays(1);
        CHECK.same("given within the day", x.daysWithConsent(0, 0), 1);
        x.consent(0, 0, false);
        CHECK.same("what was counted stays", x.daysWithConsent(0, 0), 1);
    }
}
