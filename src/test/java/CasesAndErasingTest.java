/** Promises 21 to 30. */
final class CasesAndErasingTest {
    private static final Check CHECK = new Check();

    public static void main(String[] args) {
        promise21Hold();
        promise21HoldRefuses();
        promise22Close();
        promise23Held();
        promise24Request();
        promise24RequestOfDerived();
        promise25WhyKept();
        promise26Erase();
        promise26EraseWaits();
        promise27EraseAll();
        promise28Traces();
        promise29TracesFromRoots();
        promise30Due();
        CHECK.end();
    }

    private static Privacyledger withRoots(int count) {
        Privacyledger x = new Privacyledger();
        x.addPurpose(10, false);
        x.addPurpose(20, true);
        for (int subject = 0; subject < count; subject++) {
            x.add(subject, 1);
        }
        return x;
    }

    private static void promise21Hold() {
        Privacyledger x = withRoots(3);
        CHECK.same("first", x.hold(0, 0), 1);
        CHECK.same("second", x.hold(0, 2), 2);
        CHECK.same("another case", x.hold(5, 0), 1);
        x.request(1);
        CHECK.same("a requested one", x.hold(0, 1), 3);
        CHECK.same("its state stays", x.stateOf(1), Privacyledger.REQUESTED);
    }

    private static void promise21HoldRefuses() {
        Privacyledger x = withRoots(2);
        CHECK.outOfBounds("case 6", () -> x.hold(6, 0));
        CHECK.outOfBounds("case -1", () -> x.hold(-1, 0));
        CHECK.outOfBounds("record 2", () -> x.hold(0, 2));
        CHECK.outOfBounds("record -1", () -> x.hold(0, -1));
        CHECK.outOfBounds("record 32", () -> x.hold(0, 32));
        x.hold(0, 0);
        CHECK.badState("held already", () -> x.hold(0, 0));
        CHECK.outOfBounds("case 6, held already", () -> x.hold(6, 0));
        x.request(1);
        x.erase();
        CHECK.badState("erased", () -> x.hold(0, 1));
        CHECK.same("nothing more is held", x.held(), 0b01);
    }

    private static void promise22Close() {
        Privacyledger x = withRoots(4);
        CHECK.outOfBounds("case 6", () -> x.close(6));
        CHECK.outOfBounds("case -1", () -> x.close(-1));
        CHECK.same("holds nothing", x.close(5), 0);
        x.hold(0, 0);
        x.hold(0, 1);
        x.hold(0, 2);
        x.hold(1, 1);
        x.hold(5, 3);
        CHECK.same("one is still held", x.close(0), 2);
        CHECK.same("held", x.held(), 0b1010);
        CHECK.same("closed again", x.close(0), 0);
        CHECK.same("the last holder", x.close(1), 1);
        CHECK.same("can hold again", x.hold(0, 1), 1);
        CHECK.same("close", x.close(5), 1);
        CHECK.same("held", x.held(), 0b0010);
    }

    private static void promise23Held() {
        Privacyledger x = withRoots(3);
        CHECK.same("none", x.held(), 0);
        x.hold(2, 0);
        x.hold(3, 2);
        x.hold(4, 2);
        CHECK.same("over all cases", x.held(), 0b101);
        x.derive(0, 1);
        CHECK.same("not those below", x.held(), 0b101);
        x.request(2);
        CHECK.same("requested ones, too", x.held(), 0b101);
        x.close(3);
        CHECK.same("held by another case", x.held(), 0b101);
        x.close(4);
        CHECK.same("held by none", x.held(), 0b001);
    }

    private static void promise24Request() {
        Privacyledger x = withRoots(3);
        x.add(1, 1);
        x.derive(1, 1);
        x.addSource(4, 0);
        CHECK.outOfBounds("subject 12", () -> x.request(12));
        CHECK.outOfBounds("subject -1", () -> x.request(-1));
        CHECK.same("nobody's", x.request(11), 0);
        CHECK.same("two roots and one derived", x.request(1), 3);
        CHECK.same("of another subject", x.stateOf(0), Privacyledger.PRESENT);
        CHECK.same("of another subject", x.stateOf(2), Privacyledger.PRESENT);
        CHECK.same("derived", x.stateOf(4), Privacyledger.REQUESTED);
        CHECK.same("again", x.request(1), 0);
        CHECK.same("what is left of 0", x.request(0), 1);
        x.eraseAll();
        CHECK.same("erased", x.request(1), 0);
        CHECK.same("erased", x.stateOf(1), Privacyledger.ERASED);
    }

    private static void promise24RequestOfDerived() {
        Privacyledger x = withRoots(2);
        x.derive(0, 1);
        x.derive(2, 1);
        x.addSource(2, 1);
        x.hold(0, 3);
        CHECK.same("all below, held or not", x.request(1), 3);
        CHECK.same("held", x.stateOf(3), Privacyledger.REQUESTED);
        CHECK.same("above, of another", x.stateOf(0), Privacyledger.PRESENT);
    }

    private static void promise25WhyKept() {
        Privacyledger x = withRoots(1);
        x.derive(0, 1);
        x.hold(0, 0);
        CHECK.outOfBounds("record 2", () -> x.whyKept(2));
        CHECK.outOfBounds("record -1", () -> x.whyKept(-1));
        CHECK.same("present, and held", x.whyKept(0), 2);
        x.request(0);
        CHECK.same("held, and one below", x.whyKept(0), 3);
        CHECK.same("can be erased", x.whyKept(1), 0);
        x.close(0);
        CHECK.same("one below", x.whyKept(0), 4);
        x.hold(3, 1);
        CHECK.same("held by any case", x.whyKept(1), 3);
        x.close(3);
        x.erase();
        CHECK.same("erased", x.whyKept(1), 1);
        CHECK.same("can be erased", x.whyKept(0), 0);

        Privacyledger y = withRoots(1);
        y.derive(0, 1);
        y.derive(1, 1);
        y.derive(0, 1);
        y.request(0);
        y.hold(0, 2);
        y.eraseAll();
        CHECK.same("one far below", y.whyKept(0), 4);
        CHECK.same("beside", y.whyKept(3), 1);
    }

    private static void promise26Erase() {
        Privacyledger x = withRoots(4);
        CHECK.same("all present", x.erase(), Privacyledger.NONE);
        x.request(0);
        x.request(2);
        CHECK.same("the highest", x.erase(), 2);
        CHECK.same("erased", x.stateOf(2), Privacyledger.ERASED);
        CHECK.same("only one", x.stateOf(0), Privacyledger.REQUESTED);
        CHECK.same("record 0", x.erase(), 0);
        CHECK.same("none left", x.erase(), Privacyledger.NONE);
        CHECK.same("present ones stay", x.stateOf(3), Privacyledger.PRESENT);
    }

    private static void promise26EraseWaits() {
        Privacyledger x = withRoots(2);
        x.derive(0, 1);
        x.derive(2, 1);
        x.request(0);
        x.request(1);
        x.hold(0, 3);
        CHECK.same("not held, nothing below", x.erase(), 1);
        CHECK.same("the others wait", x.erase(), Privacyledger.NONE);
        CHECK.same("close", x.close(0), 1);
        CHECK.same("from below", x.erase(), 3);
        CHECK.same("from below", x.erase(), 2);
        CHECK.same("from below", x.erase(), 0);
    }

    private static void promise27EraseAll() {
        Privacyledger x = withRoots(3);
        x.derive(0, 1);
        x.derive(3, 1);
        x.derive(1, 1);
        CHECK.same("all present", x.eraseAll(), 0);
        x.request(0);
        CHECK.same("a chain", x.eraseAll(), 3);
        CHECK.same("again", x.eraseAll(), 0);
        x.request(1);
        x.request(2);
        x.hold(0, 5);
        CHECK.same("a held one keeps what is above", x.eraseAll(), 1);
        CHECK.same("above the held one", x.stateOf(1), Privacyledger.REQUESTED);
        x.close(0);
        CHECK.same("the rest", x.eraseAll(), 2);
        CHECK.same("no trace", x.traces(0) | x.traces(1) | x.traces(2), 0);
    }

    private static Privacyledger withTraces() {
        Privacyledger x = withRoots(2);
        x.derive(0, 1);
        x.add(0, 1);
        x.derive(1, 1);
        x.derive(4, 1);
        x.addSource(4, 2);
        return x;
    }

    private static void promise28Traces() {
        Privacyledger x = withTraces();
        CHECK.outOfBounds("subject 12", () -> x.traces(12));
        CHECK.outOfBounds("subject -1", () -> x.traces(-1));
        CHECK.same("nobody's", x.traces(11), 0);
        CHECK.same("of 0", x.traces(0), 0b111101);
        CHECK.same("of 1", x.traces(1), 0b110010);
        x.request(1);
        CHECK.same("requested ones, too", x.traces(1), 0b110010);
        x.erase();
        CHECK.same("not erased ones", x.traces(1), 0b010010);
        x.eraseAll();
        CHECK.same("of 1", x.traces(1), 0);
        CHECK.same("of 0", x.traces(0), 0b001101);
    }

    private static void promise29TracesFromRoots() {
        Privacyledger x = withTraces();
        CHECK.outOfBounds("subject 12", () -> x.tracesFromRoots(12));
        CHECK.outOfBounds("subject -1", () -> x.tracesFromRoots(-1));
        CHECK.same("nobody's", x.tracesFromRoots(11), 0);
        CHECK.same("of 0", x.tracesFromRoots(0), 0b111101);
        CHECK.same("of 1", x.tracesFromRoots(1), 0b110010);
        x.request(1);
        CHECK.same("requested ones, too", x.tracesFromRoots(1), 0b110010);
        x.erase();
        CHECK.same("not erased ones", x.tracesFromRoots(1), 0b010010);
        x.eraseAll();
        CHECK.same("of 1", x.tracesFromRoots(1), 0);
        CHECK.same("of 0", x.tracesFromRoots(0), 0b001101);
    }

    private static void promise30Due() {
        Privacyledger x = withRoots(2);
        x.consent(0, 1, true);
        x.add(0, 0b10);
        x.add(0, 0b11);
        CHECK.same("none", x.due(), 0);
        x.consent(0, 1, false);
        CHECK.same("no consent any more", x.due(), 0b0100);
        CHECK.same("still present", x.stateOf(2), Privacyledger.PRESENT);
        x.consent(0, 1, true);
        CHECK.same("consent again", x.due(), 0);
        x.setRetention(0, 0);
        CHECK.same("no retention any more", x.due(), 0b0011);
        x.derive(3, 2);
        x.derive(0, 2);
        CHECK.same("not those below", x.due(), 0b0011);
        x.request(1);
        CHECK.same("not requested ones", x.due(), 0b0001);
        CHECK.same("as a day begins", x.passDays(1), 2);
        CHECK.same("none left", x.due(), 0);
        x.eraseAll();
        CHECK.same("not erased ones", x.due(), 0);
        CHECK.same("others are present", x.stateOf(4), Privacyledger.PRESENT);
    }
}
