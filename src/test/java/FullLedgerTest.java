/** All promises on a ledger at its limits: 12 subjects, 8 purposes, 30 records and 6 cases. */
final class FullLedgerTest {
    private static final int ALL_RECORDS = (1 << 30) - 1;

    private static final Check CHECK = new Check();

    public static void main(String[] args) {
        everyConsentIsCountedByItself();
        everyUseIsCountedByItself();
        aChainOfAllRecords();
        rootsOfAllSubjects();
        CHECK.end();
    }

    private static Privacyledger withEightPurposes(boolean needsConsent) {
        Privacyledger x = new Privacyledger();
        for (int purpose = 0; purpose < 8; purpose++) {
            x.addPurpose(100 + purpose, needsConsent);
        }
        return x;
    }

    private static void everyConsentIsCountedByItself() {
        Privacyledger x = withEightPurposes(true);
        for (int subject = 0; subject < 12; subject++) {
            for (int purpose = 0; purpose < 8; purpose++) {
                x.consent(subject, purpose, true);
                x.passDays(1);
            }
        }
        for (int subject = 0; subject < 12; subject++) {
            CHECK.same("consents", x.consents(subject), 255);
            for (int purpose = 0; purpose < 8; purpose++) {
                CHECK.same("daysWithConsent " + subject + " " + purpose,
                        x.daysWithConsent(subject, purpose), 96 - 8 * subject - purpose);
            }
        }
    }

    private static void everyUseIsCountedByItself() {
        Privacyledger x = withEightPurposes(false);
        for (int record = 0; record < 30; record++) {
            x.add(record % 12, 255);
        }
        for (int purpose = 0; purpose < 8; purpose++) {
            for (int record = 0; record < 30; record++) {
                CHECK.same("use " + record + " " + purpose, x.use(record, purpose), 1);
            }
            CHECK.same("use again", x.use(purpose, purpose), 2);
        }
        for (int subject = 0; subject < 12; subject++) {
            for (int purpose = 0; purpose < 8; purpose++) {
                int due = (subject < 6 ? 3 : 2) + (subject == purpose ? 1 : 0);
                CHECK.same("uses " + subject + " " + purpose, x.uses(subject, purpose), due);
            }
        }
    }

    private static void aChainOfAllRecords() {
        Privacyledger x = withEightPurposes(false);
        x.add(11, 1);
        for (int record = 1; record < 30; record++) {
            CHECK.same("derive", x.derive(record - 1, 1 << record % 8), record);
        }
        CHECK.same("below the first", x.below(0), ALL_RECORDS - 1);
        CHECK.same("below the last", x.below(29), 0);
        CHECK.same("traces", x.traces(11), ALL_RECORDS);
        CHECK.same("tracesFromRoots", x.tracesFromRoots(11), ALL_RECORDS);
        CHECK.same("due", x.due(), 0);
        CHECK.same("nextEnd", x.nextEnd(), 100);
        for (int record = 0; record < 30; record++) {
            x.hold(record % 6, record);
        }
        CHECK.same("held", x.held(), ALL_RECORDS);
        CHECK.same("the first ends, and all below it", x.passDays(100), 30);
        CHECK.same("all are held", x.eraseAll(), 0);
        for (int holder = 0; holder < 5; holder++) {
            CHECK.same("close", x.close(holder), 5);
        }
        CHECK.same("the last one is held", x.whyKept(29), 3);
        CHECK.same("it keeps all above", x.whyKept(28), 4);
        CHECK.same("it keeps all above", x.eraseAll(), 0);
        CHECK.same("close", x.close(5), 5);
        CHECK.same("erase", x.erase(), 29);
        CHECK.same("eraseAll", x.eraseAll(), 29);
        CHECK.same("traces", x.traces(11), 0);
        CHECK.same("tracesFromRoots", x.tracesFromRoots(11), 0);
        CHECK.same("nextEnd", x.nextEnd(), Privacyledger.NONE);
    }

    private static void rootsOfAllSubjects() {
        Privacyledger x = withEightPurposes(false);
        for (int subject = 0; subject < 12; subject++) {
            x.add(subject, 255);
        }
        x.derive(0, 255);
        for (int record = 13; record < 30; record++) {
            x.derive(12, 255);
        }
        for (int source = 1; source < 12; source++) {
            CHECK.same("addSource", x.addSource(12, source), source + 1);
        }
        CHECK.same("the last is of all", x.subjectsOf(29), (1 << 12) - 1);
        CHECK.same("source of a record below", x.addSource(29, 28), 12);
        CHECK.same("due", x.due(), 0);
        x.setRetention(7, 0);
        CHECK.same("nextEnd", x.nextEnd(), 106);
        CHECK.same("request", x.request(11), 19);
        CHECK.same("erase", x.erase(), 29);
        CHECK.same("eraseAll", x.eraseAll(), 18);
        CHECK.same("the others stay", x.traces(10), 1 << 10);
        CHECK.same("at the end", x.passDays(1000), 11);
        CHECK.same("eraseAll", x.eraseAll(), 11);
    }
}
