import java.util.function.Supplier;

/** Promises 21 to 23 at and beside each boundary that the document names. */
final class CasesBoundaryTest {
    private static final Check CHECK = new Check();

    private static final Supplier<Privacyledger> EMPTY = Starts.EMPTY;
    private static final Supplier<Privacyledger> MIXED = Starts.MIXED;
    private static final Supplier<Privacyledger> FULL = Starts.FULL;

    private static final String ERASED_OR_HELD = "Throws `IllegalStateException` if the record is"
            + " erased, or the case holds it already";
    private static final String NO_CASE_OR_RECORD =
            "Throws `IndexOutOfBoundsException` if there is no such case or record";

    public static void main(String[] args) {
        holderAndRecordOfHold();
        holdInEachState();
        holdWhatIsHeld();
        holdWithTwoExceptions();
        holdFromOneToThirty();
        holderOfClose();
        closeWhatHoldsNothing();
        closeWhatOthersHold();
        heldFromNoneToAll();
        heldAsLongAsSomeCaseHolds();
        CHECK.end();
    }

    private static void holderAndRecordOfHold() {
        CHECK.promise(21, "Lets a case hold a record.", "`holder`: 0 to 5: the case",
                "`record`: the number of a record", NO_CASE_OR_RECORD);
        CHECK.refusesBeside(6, "hold by a case", MIXED, (x, holder) -> x.hold(holder, 0));
        CHECK.refusesBeside(6, "hold by a case", FULL, (x, holder) -> x.hold(holder, 29));
        CHECK.refusesBeside(0, "hold of a record", EMPTY, (x, record) -> x.hold(0, record));
        CHECK.refusesBeside(8, "hold of a record", MIXED, (x, record) -> x.hold(0, record));
        CHECK.refusesBeside(30, "hold of a record", FULL, (x, record) -> x.hold(5, record));
        CHECK.refusesBounds("no case and no record", FULL, x -> x.hold(6, 30));
        for (int holder = 0; holder < 6; holder++) {
            Privacyledger x = FULL.get();
            CHECK.same("hold(" + holder + ", 29)", x.hold(holder, 29), holder == 5 ? 3 : 2);
            CHECK.same("held()", x.held(), 0b111111 | 1 << 21 | 1 << 29);
            CHECK.same("close", x.close(holder), holder == 5 ? 3 : 2);
        }
        CHECK.same("hold(1, 0)", MIXED.get().hold(1, 0), 1);
    }

    private static void holdInEachState() {
        CHECK.promise(21, ERASED_OR_HELD);
        CHECK.same("present", MIXED.get().hold(1, 3), 1);
        CHECK.same("requested", MIXED.get().hold(1, 4), 1);
        CHECK.refusesState("erased", MIXED, x -> x.hold(1, 6));
        CHECK.refusesState("erased, derived", MIXED, x -> x.hold(5, 7));
        Privacyledger x = MIXED.get();
        x.close(0);
        x.close(5);
        CHECK.same("hold what can be erased", x.hold(1, 5), 1);
        CHECK.same("erase()", x.erase(), Privacyledger.NONE);
        x.close(1);
        CHECK.same("erase()", x.erase(), 5);
        CHECK.badState("hold what is erased now", () -> x.hold(1, 5));
    }

    private static void holdWhatIsHeld() {
        CHECK.promise(21, ERASED_OR_HELD);
        CHECK.refusesState("the same case again", MIXED, x -> x.hold(0, 4));
        CHECK.refusesState("the first of two again", MIXED, x -> x.hold(5, 1));
        CHECK.refusesState("the last of two again", MIXED, x -> x.hold(5, 5));
        CHECK.same("another case", MIXED.get().hold(5, 4), 3);
        CHECK.same("another case", MIXED.get().hold(0, 1), 2);
        Privacyledger x = MIXED.get();
        x.close(0);
        CHECK.same("the same case after close", x.hold(0, 4), 1);
        CHECK.badState("and again", () -> x.hold(0, 4));
    }

    private static void holdWithTwoExceptions() {
        CHECK.promise(21, NO_CASE_OR_RECORD, ERASED_OR_HELD);
        CHECK.terms(Terms.REFUSED_CALLS);
        CHECK.refusesBounds("no case, and erased", MIXED, x -> x.hold(6, 6));
        CHECK.refusesBounds("no case, and erased", MIXED, x -> x.hold(-1, 7));
        CHECK.refusesBounds("no case, and erased", FULL, x -> x.hold(32, 10));
        CHECK.refusesBounds("no case, and held by one", MIXED, x -> x.hold(6, 4));
    }

    private static void holdFromOneToThirty() {
        CHECK.promise(21, "Returns how many records the case holds then.");
        Privacyledger x = new Privacyledger();
        x.addPurpose(5, false);
        for (int record = 0; record < 30; record++) {
            x.add(record % 12, 1);
            CHECK.same("hold(0, " + record + ")", x.hold(0, record), record + 1);
            CHECK.same("hold(5, " + record + ")", x.hold(5, record), record + 1);
        }
        CHECK.same("close(0)", x.close(0), 0);
        CHECK.same("hold(0, 29)", x.hold(0, 29), 1);
        CHECK.same("close(5)", x.close(5), 29);
    }

    private static void holderOfClose() {
        CHECK.promise(22, "`holder`: 0 to 5: the case",
                "Throws `IndexOutOfBoundsException` if there is no such case");
        for (Supplier<Privacyledger> start : Starts.ALL) {
            CHECK.refusesBeside(6, "close", start, (x, holder) -> x.close(holder));
        }
        for (int holder = 0; holder < 6; holder++) {
            Privacyledger x = FULL.get();
            int own = holder == 5 ? 1 << 5 | 1 << 21 : 1 << holder;
            CHECK.same("close(" + holder + ")", x.close(holder), holder == 5 ? 2 : 1);
            CHECK.same("held()", x.held(), (0b111111 | 1 << 21) & ~own);
        }
    }

    private static void closeWhatHoldsNothing() {
        CHECK.promise(22, "Closes a case: it holds nothing any more.",
                "Returns how many records are held by no case any more by that.");
        for (int each = 0; each < 6; each++) {
            int holder = each;
            CHECK.same("close of nothing", EMPTY.get().close(holder), 0);
            CHECK.changesNothing("close of nothing", EMPTY, x -> x.close(holder));
        }
        CHECK.changesNothing("close of nothing", MIXED, x -> x.close(1));
        Privacyledger x = MIXED.get();
        CHECK.same("close(5)", x.close(5), 2);
        CHECK.same("close(5) again", x.close(5), 0);
        CHECK.same("hold(5, 1) as if for the first time", x.hold(5, 1), 1);
        CHECK.same("held() by the others, too", x.held(), 0b10010);
    }

    private static void closeWhatOthersHold() {
        CHECK.promise(22, "Returns how many records are held by no case any more by that.");
        Privacyledger x = MIXED.get();
        CHECK.same("hold(0, 5)", x.hold(0, 5), 2);
        CHECK.same("close(5): 5 is held by 0", x.close(5), 1);
        CHECK.same("held()", x.held(), 0b110000);
        CHECK.same("close(0)", x.close(0), 2);
        CHECK.same("held()", x.held(), 0);
        for (int holder = 0; holder < 6; holder++) {
            x.hold(holder, 0);
        }
        for (int holder = 0; holder < 5; holder++) {
            CHECK.same("close: others hold it", x.close(holder), 0);
        }
        CHECK.same("close of the last that holds it", x.close(5), 1);
        Privacyledger y = MIXED.get();
        CHECK.same("close: a present one and a requested one", y.close(5), 2);
        CHECK.same("their states stay", y.stateOf(5), 1);
        CHECK.same("their states stay", y.stateOf(1), 0);
    }

    private static void heldFromNoneToAll() {
        CHECK.promise(23, "Returns the set of the records that are held.");
        CHECK.terms(Terms.SETS);
        CHECK.same("held() without records", EMPTY.get().held(), 0);
        CHECK.same("held() of 8", MIXED.get().held(), 0b110010);
        Privacyledger x = new Privacyledger();
        x.addPurpose(5, false);
        int set = 0;
        for (int record = 0; record < 30; record++) {
            x.add(0, 1);
            CHECK.same("held()", x.held(), set);
            x.hold(record % 6, record);
            set |= 1 << record;
            CHECK.same("held()", x.held(), set);
        }
        CHECK.same("held() of all", x.held(), (1 << 30) - 1);
        CHECK.same("request(0)", x.request(0), 30);
        CHECK.same("held() when all are requested", x.held(), (1 << 30) - 1);
        CHECK.changesNothing("held()", MIXED, y -> y.held());
    }

    private static void heldAsLongAsSomeCaseHolds() {
        CHECK.promise(23, "Returns the set of the records that are held.");
        CHECK.terms(Terms.HELD);
        Privacyledger x = MIXED.get();
        x.hold(1, 4);
        x.hold(2, 4);
        x.close(0);
        CHECK.same("two cases are left", x.held(), 0b110010);
        x.close(1);
        CHECK.same("one case is left", x.held(), 0b110010);
        x.close(2);
        CHECK.same("none is left", x.held(), 0b100010);
        CHECK.same("not what is above or below a held one", x.below(0), 0b100);
        x.close(5);
        CHECK.same("eraseAll(): 5 and 4", x.eraseAll(), 2);
        CHECK.same("held()", x.held(), 0);
    }
}
