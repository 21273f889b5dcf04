import java.util.function.Supplier;

/** Promises 18 to 20 at and beside each boundary that the document names. */
final class DaysBoundaryTest {
    private static final Check CHECK = new Check();

    private static final Supplier<Privacyledger> EMPTY = Starts.EMPTY;
    private static final Supplier<Privacyledger> MIXED = Starts.MIXED;

    private static final String NEXT_END = "Returns the least end of all present records, as"
            + " purposes and consents are now; NONE if no record is present.";
    private static final String HOW_MANY = "Returns how many records are requested by that.";

    public static void main(String[] args) {
        howManyDays();
        oneByOne();
        recordsThatEndOnADay();
        theLongestRetention();
        recordsWithoutConsentAsADayBegins();
        recordsBelowThoseThatEnd();
        recordsThatAreNotPresent();
        fromDayZero();
        noEndAtAll();
        leastEndOfAll();
        endsBeforeToday();
        leastEndOfPresentRecords();
        the512thCall();
        CHECK.end();
    }

    private static void howManyDays() {
        CHECK.promise(18, "`days`: 1 to 1000",
                "Throws `IllegalArgumentException` if days is out of range");
        int[] outside = {Integer.MIN_VALUE, -1000, -1, 0, 1001, 1002, Integer.MAX_VALUE};
        for (Supplier<Privacyledger> start : Starts.ALL) {
            for (int days : outside) {
                CHECK.refusesArgument("passDays(" + days + ")", start, x -> x.passDays(days));
            }
            for (int days : new int[] {1, 2, 999, 1000}) {
                Privacyledger x = start.get();
                int before = x.day();
                x.passDays(days);
                CHECK.same("day() after passDays(" + days + ")", x.day(), before + days);
            }
        }
    }

    private static void oneByOne() {
        CHECK.promise(18, "Lets days pass, one by one.", HOW_MANY);
        for (Supplier<Privacyledger> start : Starts.ALL) {
            for (int days : new int[] {1, 2, 5, 6, 7, 16, 96, 97, 98, 103, 104, 110}) {
                CHECK.same("passDays(" + days + ")", start.get().passDays(days),
                        passOneByOne(start.get(), days));
                CHECK.alike("passDays(" + days + ") and the days one by one",
                        () -> {
                            Privacyledger x = start.get();
                            passOneByOne(x, days);
                            return x;
                        },
                        () -> {
                            Privacyledger x = start.get();
                            x.passDays(days);
                            return x;
                        });
            }
        }
    }

    private static int passOneByOne(Privacyledger x, int days) {
        int requested = 0;
        for (int day = 0; day < days; day++) {
            requested += x.passDays(1);
        }
        return requested;
    }

    private static void recordsThatEndOnADay() {
        CHECK.promise(18, HOW_MANY);
        CHECK.terms(Terms.DAY_BEGINS, Terms.DUE);
        Privacyledger x = new Privacyledger();
        x.addPurpose(1, false);
        x.addPurpose(5, false);
        x.addPurpose(6, false);
        x.add(0, 0b001);
        x.add(0, 0b010);
        x.add(0, 0b110);
        x.add(0, 0b100);
        CHECK.same("day 1 begins", x.passDays(1), 1);
        CHECK.same("stateOf(0)", x.stateOf(0), 1);
        CHECK.same("days 2 to 4", x.passDays(3), 0);
        CHECK.same("stateOf(1), a day before its end", x.stateOf(1), 0);
        CHECK.same("day 5", x.passDays(1), 1);
        CHECK.same("stateOf(1), on its end", x.stateOf(1), 1);
        CHECK.same("stateOf(2), with a purpose that is still open", x.stateOf(2), 0);
        CHECK.same("day 6", x.passDays(1), 2);
        CHECK.same("stateOf(2), on its end", x.stateOf(2), 1);
        CHECK.same("day 7", x.passDays(1), 0);
        Privacyledger y = MIXED.get();
        CHECK.same("days 5 to 9: none", y.passDays(5), 0);
        CHECK.same("day 10: 0, and 2; 1 has its consent still", y.passDays(1), 2);
        CHECK.same("days 11 to 19: none", y.passDays(9), 0);
        CHECK.same("day 20: 1, and 3", y.passDays(1), 2);
    }

    private static void theLongestRetention() {
        CHECK.promise(18, "`days`: 1 to 1000", HOW_MANY);
        CHECK.terms(Terms.DAY_BEGINS);
        Privacyledger x = new Privacyledger();
        x.addPurpose(3650, false);
        x.add(11, 1);
        CHECK.same("day 1000", x.passDays(1000), 0);
        CHECK.same("day 2000", x.passDays(1000), 0);
        CHECK.same("day 3000", x.passDays(1000), 0);
        CHECK.same("day 3649", x.passDays(649), 0);
        CHECK.same("day 3650", x.passDays(1), 1);
    }

    private static void recordsWithoutConsentAsADayBegins() {
        CHECK.promise(18, HOW_MANY);
        CHECK.terms(Terms.DAY_BEGINS);
        Privacyledger x = new Privacyledger();
        x.addPurpose(10, true);
        x.consent(0, 0, true);
        x.add(0, 1);
        x.consent(0, 0, false);
        x.consent(0, 0, true);
        CHECK.same("consent was gone within the day alone", x.passDays(1), 0);
        x.setRetention(0, 1);
        x.setRetention(0, 2);
        CHECK.same("its retention was over within the day alone", x.stateOf(0), 0);
        x.consent(0, 0, false);
        CHECK.same("consent is gone, no day has begun", x.stateOf(0), 0);
        CHECK.same("the day begins", x.passDays(1), 1);
        CHECK.same("it is requested", x.stateOf(0), 1);
    }

    private static void recordsBelowThoseThatEnd() {
        CHECK.promise(18, HOW_MANY);
        CHECK.terms(Terms.REQUESTED_BELOW);
        Privacyledger x = new Privacyledger();
        x.addPurpose(5, false);
        x.addPurpose(100, false);
        x.add(0, 0b10);
        x.derive(0, 0b01);
        x.derive(1, 0b10);
        x.derive(2, 0b01);
        x.derive(0, 0b10);
        CHECK.same("day 4", x.passDays(4), 0);
        CHECK.same("day 5: 1, and 2 and 3, each of them once", x.passDays(1), 3);
        CHECK.same("not above it", x.stateOf(0), 0);
        CHECK.same("below it", x.stateOf(2), 1);
        CHECK.same("not beside it", x.stateOf(4), 0);
        CHECK.same("a new one below 4", x.derive(4, 0b01), 5);
        CHECK.same("day 99", x.passDays(94), 1);
        CHECK.same("day 100: 0 and 4", x.passDays(1), 2);
    }

    private static void recordsThatAreNotPresent() {
        CHECK.promise(18, HOW_MANY);
        CHECK.terms(Terms.DAY_BEGINS, Terms.STAYS_REQUESTED);
        Privacyledger x = MIXED.get();
        x.passDays(1000);
        CHECK.same("none is present any more", x.passDays(1000), 0);
        CHECK.same("erased before", x.stateOf(7), 2);
        CHECK.same("requested before, and held", x.stateOf(5), 1);
        CHECK.same("requested by that, and held", x.stateOf(1), 1);
        Privacyledger y = EMPTY.get();
        CHECK.same("passDays without records", y.passDays(1000), 0);
    }

    private static void fromDayZero() {
        CHECK.promise(19, "Returns the day.");
        CHECK.terms(Terms.DAY);
        Privacyledger x = new Privacyledger();
        CHECK.same("day()", x.day(), 0);
        CHECK.badArgument("passDays(0)", () -> x.passDays(0));
        CHECK.badArgument("passDays(1001)", () -> x.passDays(1001));
        CHECK.same("day() after refused calls", x.day(), 0);
        x.passDays(1);
        CHECK.same("day() after one", x.day(), 1);
        x.passDays(1000);
        CHECK.same("day() after a thousand", x.day(), 1001);
        CHECK.changesNothing("day()", MIXED, y -> y.day());
    }

    private static void noEndAtAll() {
        CHECK.promise(20, NEXT_END);
        CHECK.terms(Terms.NONE);
        CHECK.same("without records", EMPTY.get().nextEnd(), Privacyledger.NONE);
        Privacyledger x = new Privacyledger();
        x.addPurpose(5, false);
        CHECK.same("with a purpose alone", x.nextEnd(), Privacyledger.NONE);
        x.add(0, 1);
        CHECK.same("one is present", x.nextEnd(), 5);
        x.request(0);
        CHECK.same("one is requested", x.nextEnd(), Privacyledger.NONE);
        x.erase();
        CHECK.same("one is erased", x.nextEnd(), Privacyledger.NONE);
        x.passDays(1);
        x.add(0, 1);
        CHECK.same("one is present again", x.nextEnd(), 6);
    }

    private static void leastEndOfAll() {
        CHECK.promise(20, NEXT_END);
        Privacyledger x = new Privacyledger();
        x.addPurpose(5, false);
        x.addPurpose(6, false);
        x.addPurpose(4, false);
        x.add(0, 0b010);
        CHECK.same("of one", x.nextEnd(), 6);
        x.add(1, 0b010);
        CHECK.same("of two that are equal", x.nextEnd(), 6);
        x.derive(1, 0b001);
        CHECK.same("the last is the least", x.nextEnd(), 5);
        x.add(2, 0b010);
        CHECK.same("one between is the least", x.nextEnd(), 5);
        x.setRetention(0, 7);
        CHECK.same("the first is the least", x.nextEnd(), 6);
        x.passDays(1);
        x.add(3, 0b100);
        CHECK.same("a later one of a shorter retention", x.nextEnd(), 5);
        CHECK.same("nextEnd() of 30 records", Starts.FULL.get().nextEnd(), 101);
        CHECK.changesNothing("nextEnd()", MIXED, y -> y.nextEnd());
    }

    private static void endsBeforeToday() {
        CHECK.promise(20, NEXT_END);
        CHECK.terms(Terms.END);
        Privacyledger x = new Privacyledger();
        x.addPurpose(5, true);
        x.consent(0, 0, true);
        x.add(0, 1);
        x.consent(0, 0, false);
        CHECK.same("an end on day 0 is not NONE", x.nextEnd(), 0);
        x.consent(0, 0, true);
        x.passDays(4);
        CHECK.same("on the last day", x.nextEnd(), 5);
        x.setRetention(0, 4);
        CHECK.same("today", x.nextEnd(), 4);
        x.setRetention(0, 3);
        CHECK.same("yesterday", x.nextEnd(), 3);
        x.setRetention(0, 0);
        CHECK.same("on day 0", x.nextEnd(), 0);
        x.setRetention(0, 3650);
        CHECK.same("as purposes are now", x.nextEnd(), 3650);
    }

    private static void leastEndOfPresentRecords() {
        CHECK.promise(20, NEXT_END);
        Privacyledger x = MIXED.get();
        CHECK.same("nextEnd()", x.nextEnd(), 10);
        x.request(0);
        CHECK.same("without what is requested", x.nextEnd(), 20);
        x.consent(1, 1, false);
        CHECK.same("as consents are now", x.nextEnd(), 0);
        x.consent(1, 1, true);
        x.request(1);
        CHECK.same("none is present", x.nextEnd(), Privacyledger.NONE);
        x.eraseAll();
        CHECK.same("none is present", x.nextEnd(), Privacyledger.NONE);
    }

    private static void the512thCall() {
        CHECK.promise(19, "Returns the day.");
        CHECK.terms(Terms.LAST_CALL);
        for (int calls : new int[] {511, 512}) {
            Privacyledger x = new Privacyledger();
            x.addPurpose(3650, true);
            x.consent(0, 0, true);
            x.add(0, 1);
            for (int call = 4; call < calls - 3; call++) {
                x.passDays(1000);
            }
            int day = (calls - 7) * 1000;
            x.passDays(999);
            CHECK.same("add on the last of the days", x.add(0, 1), 1);
            CHECK.same("endOf, call " + (calls - 1), x.endOf(1), day + 999 + 3650);
            CHECK.same("day, call " + calls, x.day(), day + 999);
            Privacyledger y = new Privacyledger();
            y.addPurpose(0, true);
            y.consent(11, 0, true);
            for (int call = 3; call < calls; call++) {
                y.passDays(1000);
            }
            CHECK.same("daysWithConsent, call " + calls, y.daysWithConsent(11, 0),
                    (calls - 3) * 1000);
            Privacyledger z = new Privacyledger();
            z.addPurpose(1, false);
            z.add(11, 1);
            for (int call = 3; call < calls; call++) {
                z.use(0, 0);
            }
            CHECK.same("uses, call " + calls, z.uses(11, 0), calls - 3);
        }
    }
}
