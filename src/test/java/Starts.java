import java.util.List;
import java.util.function.Supplier;

/** Ledgers for tests to start from, each made with fewer than 100 calls. */
final class Starts {
    static final Supplier<Privacyledger> EMPTY = () -> new Privacyledger();
    static final Supplier<Privacyledger> MIXED = () -> mixed();
    static final Supplier<Privacyledger> FULL = () -> full();

    static final List<Supplier<Privacyledger>> ALL = List.of(EMPTY, MIXED, FULL);

    private Starts() {
    }

    /**
     * Day 4. Purposes: 0 for 10 days, 1 for 20 days with consent, 2 for 0 days. Records: 0 present,
     * of subject 0, used; 1 present, of subject 1, held; 2 present, derived from 0 and 1; 3
     * present, derived from 1, used; 4 requested, of subject 2, held; 5 requested, derived from 4,
     * held; 6 erased, of subject 3; 7 erased, derived from 6, used.
     */
    private static Privacyledger mixed() {
        Privacyledger x = new Privacyledger();
        x.addPurpose(10, false);
        x.addPurpose(20, true);
        x.addPurpose(0, false);
        x.consent(1, 1, true);
        x.consent(11, 1, true);
        x.consent(0, 2, true);
        x.add(0, 0b001);
        x.add(1, 0b011);
        x.derive(0, 0b001);
        x.addSource(2, 1);
        x.derive(1, 0b010);
        x.add(2, 0b001);
        x.derive(4, 0b001);
        x.add(3, 0b001);
        x.derive(6, 0b001);
        x.use(0, 0);
        x.use(0, 0);
        x.use(3, 1);
        x.use(7, 0);
        x.passDays(4);
        x.request(3);
        x.eraseAll();
        x.request(2);
        x.hold(0, 4);
        x.hold(5, 5);
        x.hold(5, 1);
        return x;
    }

    /**
     * Day 3. Eight purposes, of 100 to 107 days; the odd ones need consent, and all subjects
     * consent to 1. Thirty records: 0 to 11 of subjects 0 to 11, then each is derived from the one
     * twelve numbers before. 9 and those below it are requested and held, 10 and those below it
     * are erased; each case holds a record.
     */
    private static Privacyledger full() {
        Privacyledger x = new Privacyledger();
        for (int purpose = 0; purpose < 8; purpose++) {
            x.addPurpose(100 + purpose, purpose % 2 == 1);
        }
        for (int subject = 0; subject < 12; subject++) {
            x.consent(subject, 1, true);
            x.add(subject, 255);
        }
        for (int record = 12; record < 30; record++) {
            x.derive(record - 12, 0b11);
        }
        x.passDays(3);
        x.use(29, 1);
        for (int holder = 0; holder < 6; holder++) {
            x.hold(holder, holder);
        }
        x.request(10);
        x.eraseAll();
        x.hold(5, 21);
        x.request(9);
        return x;
    }
}
