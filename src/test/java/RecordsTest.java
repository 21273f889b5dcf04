/** Promises 7 to 14. */
final class RecordsTest {
    private static final Check CHECK = new Check();

    public static void main(String[] args) {
        promise07Add();
        promise07NothingOpen();
        promise07ThirtyRecords();
        promise08Derive();
        promise08DeriveNeedsConsentOfAll();
        promise08SourceNotPresent();
        promise09AddSource();
        promise09AddSourceReachesAllBelow();
        promise09AddSourceRefuses();
        promise10Records();
        promise11StateOf();
        promise12SubjectsOf();
        promise13Below();
        promise14EndOf();
        promise14EndAfterErasing();
        CHECK.end();
    }

    private static Privacyledger withPurposes() {
        Privacyledger x = new Privacyledger();
        x.addPurpose(10, false);
        x.addPurpose(20, true);
        return x;
    }

    private static void promise07Add() {
        Privacyledger x = withPurposes();
        CHECK.same("add", x.add(0, 1), 0);
        CHECK.same("add", x.add(11, 3), 1);
        CHECK.same("of its subject", x.subjectsOf(1), 1 << 11);
        CHECK.same("present", x.stateOf(1), Privacyledger.PRESENT);
        CHECK.outOfBounds("subject 12", () -> x.add(12, 1));
        CHECK.outOfBounds("subject -1", () -> x.add(-1, 1));
        CHECK.outOfBounds("subject 12, empty set", () -> x.add(12, 0));
        CHECK.outOfBounds("bit 2", () -> x.add(0, 4));
        CHECK.outOfBounds("bits 0 and 2", () -> x.add(0, 5));
        CHECK.outOfBounds("all bits", () -> x.add(0, -1));
        CHECK.outOfBounds("bit 31", () -> x.add(0, Integer.MIN_VALUE));
        CHECK.badArgument("empty set", () -> x.add(0, 0));
        CHECK.same("nothing was added", x.records(), 2);
    }

    private static void promise07NothingOpen() {
        Privacyledger x = withPurposes();
        x.addPurpose(0, false);
        CHECK.badState("no consent", () -> x.add(5, 0b010));
        CHECK.badState("retention 0", () -> x.add(5, 0b100));
        CHECK.badState("both", () -> x.add(5, 0b110));
        CHECK.same("one is open", x.add(5, 0b111), 0);
        x.consent(5, 1, true);
        CHECK.same("with consent", x.add(5, 0b010), 1);
        CHECK.badState("consent of another", () -> x.add(6, 0b010));
        x.consent(6, 1, true);
        x.setRetention(1, 0);
        CHECK.badState("retention 0 with consent", () -> x.add(6, 0b010));
        x.setRetention(1, 1);
        x.passDays(500);
        CHECK.same("the retention counts from the day of the record", x.add(6, 0b010), 2);
        CHECK.same("end", x.endOf(2), 501);
    }

    private static void promise07ThirtyRecords() {
        Privacyledger x = withPurposes();
        for (int record = 0; record < 30; record++) {
            CHECK.same("add", x.add(record % 12, 1), record);
        }
        CHECK.badState("a 31st", () -> x.add(0, 1));
        CHECK.badState("a 31st derived", () -> x.derive(0, 1));
        CHECK.badArgument("a 31st, empty set", () -> x.add(0, 0));
        CHECK.badArgument("a 31st derived, empty set", () -> x.derive(0, 0));
        CHECK.outOfBounds("a 31st of nobody", () -> x.add(12, 1));
        CHECK.outOfBounds("record 30", () -> x.derive(30, 1));
        CHECK.same("records", x.records(), 30);
        CHECK.same("traces", x.traces(0), 1 | 1 << 12 | 1 << 24);
        x.request(0);
        CHECK.same("eraseAll", x.eraseAll(), 3);
        CHECK.badState("erased ones count", () -> x.add(0, 1));
    }

    private static void promise08Derive() {
        Privacyledger x = withPurposes();
        x.add(4, 1);
        x.passDays(3);
        CHECK.same("derive", x.derive(0, 1), 1);
        CHECK.same("its own day", x.endOf(1), 13);
        CHECK.same("of the subject of the source", x.subjectsOf(1), 1 << 4);
        CHECK.same("below the source", x.below(0), 0b10);
        CHECK.outOfBounds("record 2", () -> x.derive(2, 1));
        CHECK.outOfBounds("record -1", () -> x.derive(-1, 1));
        CHECK.outOfBounds("record 2, empty set", () -> x.derive(2, 0));
        CHECK.outOfBounds("bit 2", () -> x.derive(0, 4));
        CHECK.outOfBounds("all bits", () -> x.derive(0, -1));
        CHECK.badArgument("empty set", () -> x.derive(0, 0));
        CHECK.badState("nothing open", () -> x.derive(0, 2));
        CHECK.same("other purposes than the source", x.consent(4, 1, true), true);
        CHECK.same("other purposes than the source", x.derive(0, 2), 2);
        CHECK.same("records", x.records(), 3);
    }

    private static void promise08DeriveNeedsConsentOfAll() {
        Privacyledger x = withPurposes();
        x.add(0, 1);
        x.add(1, 1);
        x.derive(0, 1);
        x.addSource(2, 1);
        x.consent(0, 1, true);
        CHECK.badState("one of both consents", () -> x.derive(2, 2));
        x.consent(1, 1, true);
        CHECK.same("both consent", x.derive(2, 2), 3);
        CHECK.same("of both", x.subjectsOf(3), 0b11);
        x.consent(0, 1, false);
        CHECK.badState("the other one consents", () -> x.derive(2, 2));
    }

    private static void promise08SourceNotPresent() {
        Privacyledger x = withPurposes();
        x.add(0, 1);
        x.request(0);
        CHECK.badState("requested", () -> x.derive(0, 1));
        CHECK.badArgument("requested, empty set", () -> x.derive(0, 0));
        CHECK.outOfBounds("requested, bit 2", () -> x.derive(0, 4));
        x.erase();
        CHECK.badState("erased", () -> x.derive(0, 1));
        CHECK.same("records", x.records(), 1);
    }

    private static void promise09AddSource() {
        Privacyledger x = withPurposes();
        x.add(0, 1);
        x.add(1, 1);
        x.add(1, 1);
        x.derive(0, 1);
        CHECK.same("one more subject", x.addSource(3, 1), 2);
        CHECK.same("a subject that it has", x.addSource(3, 2), 2);
        CHECK.same("subjects", x.subjectsOf(3), 0b11);
        CHECK.same("the source stays as it is", x.subjectsOf(1), 0b10);
        CHECK.same("below", x.below(2), 0b1000);
        CHECK.same("below", x.below(0), 0b1000);
    }

    private static void promise09AddSourceReachesAllBelow() {
        Privacyledger x = withPurposes();
        x.consent(0, 1, true);
        x.add(0, 1);
        x.add(1, 1);
        x.derive(0, 1);
        x.derive(2, 2);
        x.derive(3, 1);
        x.derive(0, 1);
        CHECK.same("open by consent", x.whyNoUse(3, 1), 0);
        CHECK.same("addSource", x.addSource(2, 1), 2);
        CHECK.same("below", x.subjectsOf(3), 0b11);
        CHECK.same("below it", x.subjectsOf(4), 0b11);
        CHECK.same("above", x.subjectsOf(0), 0b01);
        CHECK.same("beside", x.subjectsOf(5), 0b01);
        CHECK.same("not all consent any more", x.whyNoUse(3, 1), 4);
        CHECK.same("traces", x.traces(1), 0b11110);
        CHECK.same("due", x.due(), 0b1000);

        Privacyledger y = withPurposes();
        y.setRetention(1, 2);
        y.consent(0, 1, true);
        y.add(0, 1);
        y.add(1, 1);
        y.derive(0, 1);
        y.derive(2, 2);
        y.derive(2, 2);
        y.hold(0, 4);
        CHECK.same("below are requested", y.passDays(2), 2);
        CHECK.same("one is erased", y.erase(), 3);
        CHECK.same("addSource", y.addSource(2, 1), 2);
        CHECK.same("erased ones below, too", y.subjectsOf(3), 0b11);
        CHECK.same("requested ones below, too", y.subjectsOf(4), 0b11);
    }

    private static void promise09AddSourceRefuses() {
        Privacyledger x = withPurposes();
        x.add(0, 1);
        x.add(1, 1);
        x.derive(0, 1);
        x.derive(0, 1);
        CHECK.outOfBounds("record 4", () -> x.addSource(4, 0));
        CHECK.outOfBounds("record -1", () -> x.addSource(-1, 0));
        CHECK.outOfBounds("source 4", () -> x.addSource(2, 4));
        CHECK.outOfBounds("source -1", () -> x.addSource(2, -1));
        CHECK.outOfBounds("root and source 4", () -> x.addSource(0, 4));
        CHECK.badArgument("itself", () -> x.addSource(2, 2));
        CHECK.badArgument("a higher one", () -> x.addSource(2, 3));
        CHECK.badArgument("a source already", () -> x.addSource(2, 0));
        CHECK.badArgument("root and itself", () -> x.addSource(0, 0));
        CHECK.badArgument("root and a higher one", () -> x.addSource(0, 1));
        CHECK.badState("root", () -> x.addSource(1, 0));
        x.request(1);
        CHECK.badState("the source is requested", () -> x.addSource(2, 1));
        x.eraseAll();
        CHECK.badState("the source is erased", () -> x.addSource(2, 1));
        CHECK.same("not changed", x.subjectsOf(2), 0b01);
        x.add(2, 1);
        x.derive(4, 1);
        x.request(2);
        CHECK.badState("the record is requested", () -> x.addSource(5, 0));
        CHECK.badArgument("requested, a source already", () -> x.addSource(5, 4));
        x.eraseAll();
        CHECK.badState("the record is erased", () -> x.addSource(5, 0));
        CHECK.badArgument("erased, a source already", () -> x.addSource(5, 4));
        CHECK.badArgument("erased, a higher one", () -> x.addSource(4, 5));
    }

    private static void promise10Records() {
        Privacyledger x = withPurposes();
        CHECK.same("none", x.records(), 0);
        x.add(0, 1);
        CHECK.same("one", x.records(), 1);
        x.derive(0, 1);
        CHECK.same("a derived one counts", x.records(), 2);
        x.request(0);
        x.eraseAll();
        CHECK.same("erased ones count", x.records(), 2);
        CHECK.same("numbers go on", x.add(1, 1), 2);
    }

    private static void promise11StateOf() {
        Privacyledger x = withPurposes();
        x.add(0, 1);
        x.add(1, 1);
        CHECK.same("present", x.stateOf(0), Privacyledger.PRESENT);
        x.request(0);
        CHECK.same("requested", x.stateOf(0), Privacyledger.REQUESTED);
        CHECK.same("the other is present", x.stateOf(1), Privacyledger.PRESENT);
        x.erase();
        CHECK.same("erased", x.stateOf(0), Privacyledger.ERASED);
        x.request(0);
        x.passDays(20);
        CHECK.same("stays erased", x.stateOf(0), Privacyledger.ERASED);
        CHECK.outOfBounds("record 2", () -> x.stateOf(2));
        CHECK.outOfBounds("record -1", () -> x.stateOf(-1));
        CHECK.outOfBounds("record 32", () -> x.stateOf(32));
    }

    private static void promise12SubjectsOf() {
        Privacyledger x = withPurposes();
        x.add(0, 1);
        x.add(11, 1);
        x.derive(1, 1);
        x.addSource(2, 0);
        CHECK.same("root", x.subjectsOf(0), 1);
        CHECK.same("root", x.subjectsOf(1), 1 << 11);
        CHECK.same("derived", x.subjectsOf(2), 1 | 1 << 11);
        x.request(0);
        CHECK.same("requested", x.subjectsOf(0), 1);
        x.eraseAll();
        CHECK.same("erased", x.subjectsOf(2), 1 | 1 << 11);
        CHECK.outOfBounds("record 3", () -> x.subjectsOf(3));
        CHECK.outOfBounds("record -1", () -> x.subjectsOf(-1));
    }

    private static void promise13Below() {
        Privacyledger x = withPurposes();
        x.add(0, 1);
        x.derive(0, 1);
        x.derive(1, 1);
        x.add(1, 1);
        x.derive(3, 1);
        x.addSource(4, 1);
        CHECK.same("below 0", x.below(0), 0b10110);
        CHECK.same("below 1", x.below(1), 0b10100);
        CHECK.same("below 2", x.below(2), 0);
        CHECK.same("below 3", x.below(3), 0b10000);
        x.request(0);
        CHECK.same("requested ones, too", x.below(0), 0b10110);
        x.eraseAll();
        CHECK.same("erased ones, too", x.below(0), 0b10110);
        CHECK.outOfBounds("record 5", () -> x.below(5));
        CHECK.outOfBounds("record -1", () -> x.below(-1));
    }

    private static void promise14EndOf() {
        Privacyledger x = withPurposes();
        x.addPurpose(3650, false);
        x.passDays(7);
        x.consent(0, 1, true);
        x.add(0, 0b011);
        CHECK.same("the greatest that consent allows", x.endOf(0), 27);
        x.consent(0, 1, false);
        CHECK.same("consent withdrawn", x.endOf(0), 17);
        x.consent(0, 1, true);
        x.add(0, 0b010);
        x.consent(0, 1, false);
        CHECK.same("no purpose left: its day", x.endOf(1), 7);
        x.passDays(2);
        CHECK.same("the day goes on, the end does not", x.endOf(1), 7);
        x.setRetention(0, 0);
        CHECK.same("retention 0: its day", x.endOf(0), 7);
        x.setRetention(0, 3650);
        CHECK.same("retention 3650", x.endOf(0), 3657);
        CHECK.outOfBounds("record 2", () -> x.endOf(2));
        CHECK.outOfBounds("record -1", () -> x.endOf(-1));
    }

    private static void promise14EndAfterErasing() {
        Privacyledger x = withPurposes();
        x.passDays(1);
        x.add(0, 1);
        CHECK.same("its retention ends", x.passDays(10), 1);
        CHECK.same("requested", x.endOf(0), 11);
        x.erase();
        CHECK.same("erased", x.endOf(0), 11);
        x.setRetention(0, 2);
        CHECK.same("as purposes are now", x.endOf(0), 3);
    }
}
