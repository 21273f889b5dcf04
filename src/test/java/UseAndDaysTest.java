/** Promises 15 to 20. */
final class UseAndDaysTest {
    private static final Check CHECK = new Check();

    public static void main(String[] args) {
        promise15WhyNoUse();
        promise15FirstReason();
        promise15ConsentOfAll();
        promise16Use();
        promise16UseRefuses();
        promise17Uses();
        promise17UsesOfSubjectsNow();
        promise18PassDays();
        promise18PassDaysRequestsAllBelow();
        promise18RequestedStay();
        promise19Day();
        promise20NextEnd();
        CHECK.end();
    }

    private static Privacyledger withPurposes() {
        Privacyledger x = new Privacyledger();
        x.addPurpose(10, false);
        x.addPurpose(20, true);
        x.addPurpose(5, true);
        return x;
    }

    private static void promise15WhyNoUse() {
        Privacyledger x = withPurposes();
        x.consent(0, 2, true);
        x.add(0, 0b111);
        x.add(1, 0b001);
        CHECK.same("may be used", x.whyNoUse(0, 0), 0);
        CHECK.same("no consent", x.whyNoUse(0, 1), 4);
        CHECK.same("with consent", x.whyNoUse(0, 2), 0);
        CHECK.same("not for it", x.whyNoUse(1, 1), 3);
        x.passDays(4);
        CHECK.same("last day", x.whyNoUse(0, 2), 0);
        x.passDays(1);
        CHECK.same("retention is over", x.whyNoUse(0, 2), 5);
        CHECK.same("the other goes on", x.whyNoUse(0, 0), 0);
        CHECK.outOfBounds("record 2", () -> x.whyNoUse(2, 0));
        CHECK.outOfBounds("record -1", () -> x.whyNoUse(-1, 0));
        CHECK.outOfBounds("purpose 3", () -> x.whyNoUse(0, 3));
        CHECK.outOfBounds("purpose -1", () -> x.whyNoUse(0, -1));
        CHECK.outOfBounds("purpose 32", () -> x.whyNoUse(0, 32));
    }

    private static void promise15FirstReason() {
        Privacyledger x = withPurposes();
        x.add(0, 0b101);
        x.passDays(5);
        CHECK.same("no consent, and over", x.whyNoUse(0, 2), 4);
        CHECK.same("not for it, and no consent", x.whyNoUse(0, 1), 3);
        x.request(0);
        CHECK.same("requested, and open", x.whyNoUse(0, 0), 2);
        CHECK.same("requested, and not for it", x.whyNoUse(0, 1), 2);
        x.erase();
        CHECK.same("erased, and not for it", x.whyNoUse(0, 1), 1);
        CHECK.same("erased", x.whyNoUse(0, 0), 1);
    }

    private static void promise15ConsentOfAll() {
        Privacyledger x = withPurposes();
        x.add(0, 1);
        x.add(1, 1);
        x.derive(0, 0b011);
        x.addSource(2, 1);
        CHECK.same("none consents", x.whyNoUse(2, 1), 4);
        x.consent(0, 1, true);
        CHECK.same("one consents", x.whyNoUse(2, 1), 4);
        x.consent(1, 1, true);
        CHECK.same("both consent", x.whyNoUse(2, 1), 0);
        x.consent(0, 1, false);
        CHECK.same("the other one consents", x.whyNoUse(2, 1), 4);
        CHECK.same("no consent is needed", x.whyNoUse(2, 0), 0);
    }

    private static void promise16Use() {
        Privacyledger x = withPurposes();
        x.consent(0, 1, true);
        x.add(0, 0b011);
        x.add(0, 0b011);
        CHECK.same("first", x.use(0, 0), 1);
        CHECK.same("second", x.use(0, 0), 2);
        CHECK.same("other purpose", x.use(0, 1), 1);
        CHECK.same("other record", x.use(1, 0), 1);
        x.passDays(3);
        CHECK.same("third, later", x.use(0, 0), 3);
    }

    private static void promise16UseRefuses() {
        Privacyledger x = withPurposes();
        x.consent(0, 2, true);
        x.add(0, 0b111);
        x.add(0, 0b001);
        CHECK.outOfBounds("record 2", () -> x.use(2, 0));
        CHECK.outOfBounds("record -1", () -> x.use(-1, 0));
        CHECK.outOfBounds("purpose 3", () -> x.use(0, 3));
        CHECK.outOfBounds("purpose -1", () -> x.use(1, -1));
        CHECK.badState("not for it", () -> x.use(1, 1));
        CHECK.badState("no consent", () -> x.use(0, 1));
        x.passDays(5);
        CHECK.badState("retention is over", () -> x.use(0, 2));
        x.request(0);
        CHECK.badState("requested", () -> x.use(0, 0));
        x.eraseAll();
        CHECK.badState("erased", () -> x.use(0, 0));
        for (int purpose = 0; purpose < 3; purpose++) {
            CHECK.same("nothing was used", x.uses(0, purpose), 0);
        }
    }

    private static void promise17Uses() {
        Privacyledger x = withPurposes();
        x.consent(3, 1, true);
        x.add(3, 0b011);
        x.add(3, 0b001);
        x.add(11, 0b001);
        CHECK.same("none", x.uses(3, 0), 0);
        x.use(0, 0);
        x.use(0, 1);
        x.use(1, 0);
        x.use(1, 0);
        x.use(2, 0);
        CHECK.same("over all records", x.uses(3, 0), 3);
        CHECK.same("other purpose", x.uses(3, 1), 1);
        CHECK.same("other subject", x.uses(11, 0), 1);
        CHECK.same("other subject", x.uses(11, 1), 0);
        x.request(3);
        CHECK.same("requested ones, too", x.uses(3, 0), 3);
        x.eraseAll();
        CHECK.same("erased ones, too", x.uses(3, 0), 3);
        CHECK.outOfBounds("subject 12", () -> x.uses(12, 0));
        CHECK.outOfBounds("subject -1", () -> x.uses(-1, 0));
        CHECK.outOfBounds("purpose 3", () -> x.uses(3, 3));
        CHECK.outOfBounds("purpose -1", () -> x.uses(3, -1));
    }

    private static void promise17UsesOfSubjectsNow() {
        Privacyledger x = withPurposes();
        x.add(0, 1);
        x.add(1, 1);
        x.derive(0, 1);
        x.use(2, 0);
        x.use(2, 0);
        CHECK.same("not of 1 yet", x.uses(1, 0), 0);
        x.addSource(2, 1);
        CHECK.same("of 1 now, with earlier uses", x.uses(1, 0), 2);
        CHECK.same("of 0 as well", x.uses(0, 0), 2);
    }

    private static void promise18PassDays() {
        Privacyledger x = withPurposes();
        x.add(0, 1);
        x.passDays(3);
        x.add(1, 1);
        CHECK.badArgument("0 days", () -> x.passDays(0));
        CHECK.badArgument("-1 days", () -> x.passDays(-1));
        CHECK.badArgument("1001 days", () -> x.passDays(1001));
        CHECK.badArgument("least", () -> x.passDays(Integer.MIN_VALUE));
        CHECK.badArgument("greatest", () -> x.passDays(Integer.MAX_VALUE));
        CHECK.same("day", x.day(), 3);
        CHECK.same("the last day of the first", x.passDays(6), 0);
        CHECK.same("present", x.stateOf(0), Privacyledger.PRESENT);
        CHECK.same("the end of the first", x.passDays(1), 1);
        CHECK.same("requested", x.stateOf(0), Privacyledger.REQUESTED);
        CHECK.same("present", x.stateOf(1), Privacyledger.PRESENT);
        CHECK.same("far over the end of the second", x.passDays(1000), 1);
        CHECK.same("requested", x.stateOf(1), Privacyledger.REQUESTED);
        CHECK.same("nothing left", x.passDays(1000), 0);

        Privacyledger y = withPurposes();
        y.consent(0, 1, true);
        y.add(0, 0b010);
        y.consent(0, 1, false);
        CHECK.same("not within the day", y.stateOf(0), Privacyledger.PRESENT);
        CHECK.same("as the next day begins", y.passDays(1), 1);

        Privacyledger z = withPurposes();
        z.consent(0, 1, true);
        z.add(0, 0b010);
        z.consent(0, 1, false);
        z.consent(0, 1, true);
        CHECK.same("consent is back in time", z.passDays(1), 0);
    }

    private static void promise18PassDaysRequestsAllBelow() {
        Privacyledger x = withPurposes();
        x.consent(0, 1, true);
        x.add(0, 1);
        x.derive(0, 2);
        x.derive(1, 2);
        x.add(0, 2);
        CHECK.same("with all below, though they are open", x.passDays(10), 3);
        CHECK.same("below", x.stateOf(2), Privacyledger.REQUESTED);
        CHECK.same("beside", x.stateOf(3), Privacyledger.PRESENT);

        Privacyledger y = withPurposes();
        y.consent(0, 1, true);
        y.add(0, 2);
        y.derive(0, 1);
        CHECK.same("not those above", y.passDays(10), 1);
        CHECK.same("above", y.stateOf(0), Privacyledger.PRESENT);
        CHECK.same("below is counted once", y.passDays(10), 1);
        CHECK.same("above", y.stateOf(0), Privacyledger.REQUESTED);

        Privacyledger z = withPurposes();
        z.add(0, 1);
        z.derive(0, 1);
        z.derive(1, 1);
        CHECK.same("each is counted once", z.passDays(10), 3);
    }

    private static void promise18RequestedStay() {
        Privacyledger x = withPurposes();
        x.consent(0, 1, true);
        x.add(0, 2);
        x.consent(0, 1, false);
        x.hold(0, 0);
        CHECK.same("a held one is requested, too", x.passDays(1), 1);
        x.consent(0, 1, true);
        CHECK.same("stays requested", x.stateOf(0), Privacyledger.REQUESTED);
        CHECK.same("is not requested again", x.passDays(100), 0);
    }

    private static void promise19Day() {
        Privacyledger x = withPurposes();
        CHECK.same("at first", x.day(), 0);
        x.passDays(1);
        CHECK.same("1", x.day(), 1);
        x.passDays(1000);
        CHECK.same("1001", x.day(), 1001);
        x.add(0, 1);
        x.request(0);
        x.eraseAll();
        CHECK.same("other calls take no day", x.day(), 1001);
        for (int call = 0; call < 400; call++) {
            x.passDays(1000);
        }
        CHECK.same("a long time", x.day(), 401001);
        x.add(0, 1);
        CHECK.same("a late end", x.endOf(1), 401011);
    }

    private static void promise20NextEnd() {
        Privacyledger x = withPurposes();
        CHECK.same("no record", x.nextEnd(), Privacyledger.NONE);
        x.consent(0, 1, true);
        x.add(0, 0b010);
        CHECK.same("one", x.nextEnd(), 20);
        x.add(1, 0b001);
        CHECK.same("the least", x.nextEnd(), 10);
        x.passDays(3);
        x.add(2, 0b001);
        CHECK.same("the least", x.nextEnd(), 10);
        x.consent(0, 1, false);
        CHECK.same("as consents are now", x.nextEnd(), 0);
        x.consent(0, 1, true);
        x.setRetention(1, 4);
        CHECK.same("as purposes are now", x.nextEnd(), 4);
        x.setRetention(1, 20);
        x.request(1);
        CHECK.same("not of requested ones", x.nextEnd(), 13);
        x.eraseAll();
        CHECK.same("not of erased ones", x.nextEnd(), 13);
        x.request(2);
        CHECK.same("the last one", x.nextEnd(), 20);
        x.request(0);
        CHECK.same("none present", x.nextEnd(), Privacyledger.NONE);
    }
}
