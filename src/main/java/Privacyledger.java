/**
 * A ledger of personal data: which records there are of whom, for which purposes they may be used
 * and until when, what was derived from what, which cases hold them, and how they are erased so
 * that nothing derived is left behind.
 *
 * <p>A set is an int with the bit k for the subject, purpose or record k. The sources of a record
 * have lower numbers than the record, so one pass over the numbers, upwards, meets every record
 * after all that are above it.
 */
public final class Privacyledger {
    /** There is no such record or day. */
    public static final int NONE = -1;

    /** The states of a record. */
    public static final int PRESENT = 0, REQUESTED = 1, ERASED = 2;

    private static final int SUBJECTS = 12;
    private static final int MOST_PURPOSES = 8;
    private static final int MOST_RECORDS = 30;
    private static final int CASES = 6;
    private static final int LONGEST_RETENTION = 3650;
    private static final int MOST_DAYS_AT_ONCE = 1000;

    private int today;

    private int purposeCount;
    private final int[] retentionOfPurpose = new int[MOST_PURPOSES];
    private int purposesWithoutConsent;

    private final int[] consentsOfSubject = new int[SUBJECTS];
    /** One counter for each subject and purpose, at the index that consentIndex gives. */
    private final int[] consentDays = new int[SUBJECTS * MOST_PURPOSES];

    private int recordCount;
    private final int[] dayAdded = new int[MOST_RECORDS];
    private final int[] purposesOfRecord = new int[MOST_RECORDS];
    private final int[] subjectsOfRecord = new int[MOST_RECORDS];
    /** The set of the sources of each record; it is empty for a root record, and for no other. */
    private final int[] sourcesOfRecord = new int[MOST_RECORDS];
    /** One counter for each record and purpose, at the index that useIndex gives. */
    private final int[] useCounts = new int[MOST_RECORDS * MOST_PURPOSES];

    /** The records that are present, requested and erased; each record is in one of these sets. */
    private int presentRecords;
    private int requestedRecords;
    private int erasedRecords;

    private final int[] recordsOfCase = new int[CASES];

    /** Creates a ledger without purposes and records. */
    public Privacyledger() {
    }

    // ---- purposes and consents

    /** Adds a purpose and returns its number. */
    public int addPurpose(int retention, boolean needsConsent)
            throws IllegalArgumentException, IllegalStateException {
        checkRetention(retention);
        if (purposeCount >= MOST_PURPOSES) {
            throw new IllegalStateException("there are 8 purposes");
        }
        int purpose = purposeCount;
        retentionOfPurpose[purpose] = retention;
        if (!needsConsent) {
            purposesWithoutConsent |= bit(purpose);
        }
        purposeCount++;
        return purpose;
    }

    /** Changes the retention of a purpose, for all records, and returns the one before. */
    public int setRetention(int purpose, int retention)
            throws IndexOutOfBoundsException, IllegalArgumentException {
        checkPurpose(purpose);
        checkRetention(retention);
        int before = retentionOfPurpose[purpose];
        retentionOfPurpose[purpose] = retention;
        return before;
    }

    /** Gives or withdraws a consent; returns true if that changes something. */
    public boolean consent(int subject, int purpose, boolean isGiven)
            throws IndexOutOfBoundsException {
        checkSubject(subject);
        checkPurpose(purpose);
        if (has(consentsOfSubject[subject], purpose) == isGiven) {
            return false;
        }
        consentsOfSubject[subject] ^= bit(purpose);
        return true;
    }

    /** Returns the set of the purposes to which a subject consents. */
    public int consents(int subject) throws IndexOutOfBoundsException {
        checkSubject(subject);
        return consentsOfSubject[subject];
    }

    /** Returns on how many of the days that are over a subject consented to a purpose. */
    public int daysWithConsent(int subject, int purpose) throws IndexOutOfBoundsException {
        checkSubject(subject);
        checkPurpose(purpose);
        return consentDays[consentIndex(subject, purpose)];
    }

    // ---- records

    /** Adds a root record and returns its number. */
    public int add(int subject, int purposes)
            throws IndexOutOfBoundsException, IllegalArgumentException, IllegalStateException {
        checkSubject(subject);
        checkPurposes(purposes);
        return addRecord(bit(subject), purposes, 0);
    }

    /** Adds a derived record with one source and returns its number. */
    public int derive(int source, int purposes)
            throws IndexOutOfBoundsException, IllegalArgumentException, IllegalStateException {
        checkRecord(source);
        checkPurposes(purposes);
        if (!has(presentRecords, source)) {
            throw new IllegalStateException("the source is not present");
        }
        return addRecord(subjectsOfRecord[source], purposes, bit(source));
    }

    /** Gives one more source to a derived record; returns how many subjects it is of then. */
    public int addSource(int record, int source)
            throws IndexOutOfBoundsException, IllegalArgumentException, IllegalStateException {
        checkRecord(record);
        checkRecord(source);
        if (source >= record) {
            throw new IllegalArgumentException("the source is not lower than the record");
        }
        if (has(sourcesOfRecord[record], source)) {
            throw new IllegalArgumentException("the source is one of its sources already");
        }
        if (isRoot(record)) {
            throw new IllegalStateException("the record is a root record");
        }
        if (!has(presentRecords, record) || !has(presentRecords, source)) {
            throw new IllegalStateException("the record or the source is not present");
        }
        sourcesOfRecord[record] |= bit(source);
        addSubjects(withAllBelow(bit(record)), subjectsOfRecord[source]);
        return Integer.bitCount(subjectsOfRecord[record]);
    }

    /** Returns how many records were added. */
    public int records() {
        return recordCount;
    }

    /** Returns PRESENT, REQUESTED or ERASED. */
    public int stateOf(int record) throws IndexOutOfBoundsException {
        checkRecord(record);
        if (has(erasedRecords, record)) {
            return ERASED;
        }
        return has(requestedRecords, record) ? REQUESTED : PRESENT;
    }

    /** Returns the set of the subjects that a record is of, also when it is erased. */
    public int subjectsOf(int record) throws IndexOutOfBoundsException {
        checkRecord(record);
        return subjectsOfRecord[record];
    }

    /** Returns the set of the records below a record, whatever their states. */
    public int below(int record) throws IndexOutOfBoundsException {
        checkRecord(record);
        return allBelow(record);
    }

    /** Returns the end of a record, as purposes and consents are now. */
    public int endOf(int record) throws IndexOutOfBoundsException {
        checkRecord(record);
        return endNow(record);
    }

    // ---- use

    /**
     * Tells why a record must not be used for a purpose: 0 it may be used, 1 it is erased, 2 it is
     * requested, 3 it is not for this purpose, 4 a consent is missing, 5 the retention is over.
     */
    public int whyNoUse(int record, int purpose) throws IndexOutOfBoundsException {
        checkRecord(record);
        checkPurpose(purpose);
        if (has(erasedRecords, record)) {
            return 1;
        }
        if (has(requestedRecords, record)) {
            return 2;
        }
        if (!has(purposesOfRecord[record], purpose)) {
            return 3;
        }
        if (!has(purposesAllowedBy(subjectsOfRecord[record]), purpose)) {
            return 4;
        }
        return isRetained(purpose, dayAdded[record]) ? 0 : 5;
    }

    /** Uses a record for a purpose; returns how often that was done then. */
    public int use(int record, int purpose)
            throws IndexOutOfBoundsException, IllegalStateException {
        if (whyNoUse(record, purpose) != 0) {
            throw new IllegalStateException("the record must not be used for the purpose");
        }
        int index = useIndex(record, purpose);
        useCounts[index]++;
        return useCounts[index];
    }

    /** Returns how often records that are of a subject now were used for a purpose. */
    public int uses(int subject, int purpose) throws IndexOutOfBoundsException {
        checkSubject(subject);
        checkPurpose(purpose);
        int sum = 0;
        for (int record = 0; record < recordCount; record++) {
            if (has(subjectsOfRecord[record], subject)) {
                sum += useCounts[useIndex(record, purpose)];
            }
        }
        return sum;
    }

    // ---- days

    /** Lets days pass; returns how many records are requested by that. */
    public int passDays(int days) throws IllegalArgumentException {
        if (days < 1 || days > MOST_DAYS_AT_ONCE) {
            throw new IllegalArgumentException("days is out of range");
        }
        countDaysWithConsent(days);
        today += days;
        // All days are taken in one step: while they pass, no purpose and no consent changes, so a
        // record that is due as one of them begins is still due as the last one begins.
        return requestWithAllBelow(dueRecords());
    }

    /** Returns the day. */
    public int day() {
        return today;
    }

    /** Returns the least end of all present records; NONE if no record is present. */
    public int nextEnd() {
        int least = NONE;
        for (int record = 0; record < recordCount; record++) {
            if (has(presentRecords, record)) {
                int end = endNow(record);
                least = least == NONE ? end : Math.min(least, end);
            }
        }
        return least;
    }

    // ---- cases

    /** Lets a case hold a record; returns how many records the case holds then. */
    public int hold(int holder, int record)
            throws IndexOutOfBoundsException, IllegalStateException {
        checkCase(holder);
        checkRecord(record);
        if (has(erasedRecords, record)) {
            throw new IllegalStateException("the record is erased");
        }
        if (has(recordsOfCase[holder], record)) {
            throw new IllegalStateException("the case holds the record already");
        }
        recordsOfCase[holder] |= bit(record);
        return Integer.bitCount(recordsOfCase[holder]);
    }

    /** Closes a case; returns how many records are held by no case any more by that. */
    public int close(int holder) throws IndexOutOfBoundsException {
        checkCase(holder);
        int heldBefore = heldRecords();
        recordsOfCase[holder] = 0;
        return Integer.bitCount(heldBefore & ~heldRecords());
    }

    /** Returns the set of the records that are held. */
    public int held() {
        return heldRecords();
    }

    // ---- erasing

    /** Asks for the erasure of all present records of a subject; returns how many they are. */
    public int request(int subject) throws IndexOutOfBoundsException {
        checkSubject(subject);
        return requestWithAllBelow(recordsOf(subject) & presentRecords);
    }

    /**
     * Tells what keeps a record from being erased now: 0 nothing, 1 it is erased, 2 it is present,
     * 3 it is held, 4 some record below it is not erased.
     */
    public int whyKept(int record) throws IndexOutOfBoundsException {
        checkRecord(record);
        if (has(erasedRecords, record)) {
            return 1;
        }
        if (has(presentRecords, record)) {
            return 2;
        }
        if (has(heldRecords(), record)) {
            return 3;
        }
        return (allBelow(record) & ~erasedRecords) == 0 ? 0 : 4;
    }

    /** Erases the record with the highest number that can be erased; returns it, or NONE. */
    public int erase() {
        for (int record = recordCount - 1; record >= 0; record--) {
            if (whyKept(record) == 0) {
                moveToErased(record);
                return record;
            }
        }
        return NONE;
    }

    /** Erases as long as a record can be erased; returns how many are erased. */
    public int eraseAll() {
        int count = 0;
        // One pass is enough: the records below a record have higher numbers, so each of them has
        // had its turn before the record has it.
        for (int record = recordCount - 1; record >= 0; record--) {
            if (whyKept(record) == 0) {
                moveToErased(record);
                count++;
            }
        }
        return count;
    }

    // ---- traces

    /** Returns the set of the records that are of a subject and not erased. */
    public int traces(int subject) throws IndexOutOfBoundsException {
        checkSubject(subject);
        return recordsOf(subject) & ~erasedRecords;
    }

    /** Returns the same, found by going down from all root records of the subject. */
    public int tracesFromRoots(int subject) throws IndexOutOfBoundsException {
        checkSubject(subject);
        return withAllBelow(rootsOf(subject)) & ~erasedRecords;
    }

    /** Returns the set of the present records that are due now. */
    public int due() {
        return dueRecords();
    }

    // ---- what is refused

    private void checkSubject(int subject) {
        if (subject < 0 || subject >= SUBJECTS) {
            throw new IndexOutOfBoundsException("there is no such subject");
        }
    }

    private void checkPurpose(int purpose) {
        if (purpose < 0 || purpose >= purposeCount) {
            throw new IndexOutOfBoundsException("there is no such purpose");
        }
    }

    private void checkPurposes(int purposes) {
        if ((purposes & ~allPurposes()) != 0) {
            throw new IndexOutOfBoundsException("the set has a bit of no purpose");
        }
        if (purposes == 0) {
            throw new IllegalArgumentException("the set of purposes is empty");
        }
    }

    private void checkRetention(int retention) {
        if (retention < 0 || retention > LONGEST_RETENTION) {
            throw new IllegalArgumentException("retention is out of range");
        }
    }

    private void checkRecord(int record) {
        if (record < 0 || record >= recordCount) {
            throw new IndexOutOfBoundsException("there is no such record");
        }
    }

    private void checkCase(int holder) {
        if (holder < 0 || holder >= CASES) {
            throw new IndexOutOfBoundsException("there is no such case");
        }
    }

    // ---- sets and indices

    private static int bit(int number) {
        return 1 << number;
    }

    private static boolean has(int set, int number) {
        return (set & bit(number)) != 0;
    }

    private int allPurposes() {
        return bit(purposeCount) - 1;
    }

    private static int consentIndex(int subject, int purpose) {
        return subject * MOST_PURPOSES + purpose;
    }

    private static int useIndex(int record, int purpose) {
        return record * MOST_PURPOSES + purpose;
    }

    // ---- records of subjects, and below records

    private int addRecord(int subjects, int purposes, int sources) {
        if (recordCount >= MOST_RECORDS) {
            throw new IllegalStateException("there are 30 records");
        }
        if (!isAnyOpen(purposes, subjects, today)) {
            throw new IllegalStateException("none of these purposes would be open");
        }
        int record = recordCount;
        dayAdded[record] = today;
        purposesOfRecord[record] = purposes;
        subjectsOfRecord[record] = subjects;
        sourcesOfRecord[record] = sources;
        presentRecords |= bit(record);
        recordCount++;
        return record;
    }

    private void addSubjects(int records, int subjects) {
        for (int record = 0; record < recordCount; record++) {
            if (has(records, record)) {
                subjectsOfRecord[record] |= subjects;
            }
        }
    }

    private boolean isRoot(int record) {
        return sourcesOfRecord[record] == 0;
    }

    private int recordsOf(int subject) {
        int set = 0;
        for (int record = 0; record < recordCount; record++) {
            if (has(subjectsOfRecord[record], subject)) {
                set |= bit(record);
            }
        }
        return set;
    }

    private int rootsOf(int subject) {
        int set = 0;
        for (int record = 0; record < recordCount; record++) {
            if (isRoot(record) && has(subjectsOfRecord[record], subject)) {
                set |= bit(record);
            }
        }
        return set;
    }

    /** The given records and all that are below one of them. */
    private int withAllBelow(int records) {
        int set = records;
        for (int record = 0; record < recordCount; record++) {
            if ((sourcesOfRecord[record] & set) != 0) {
                set |= bit(record);
            }
        }
        return set;
    }

    private int allBelow(int record) {
        return withAllBelow(bit(record)) & ~bit(record);
    }

    // ---- what is open, and until when

    /** The purposes that need no consent or to which all of the given subjects consent. */
    private int purposesAllowedBy(int subjects) {
        int consentedByAll = allPurposes();
        for (int subject = 0; subject < SUBJECTS; subject++) {
            if (has(subjects, subject)) {
                consentedByAll &= consentsOfSubject[subject];
            }
        }
        return consentedByAll | purposesWithoutConsent;
    }

    private boolean isRetained(int purpose, int added) {
        return today < added + retentionOfPurpose[purpose];
    }

    /** Tells if one of the purposes is open for a record of these subjects, added on that day. */
    private boolean isAnyOpen(int purposes, int subjects, int added) {
        int allowed = purposes & purposesAllowedBy(subjects);
        for (int purpose = 0; purpose < purposeCount; purpose++) {
            if (has(allowed, purpose) && isRetained(purpose, added)) {
                return true;
            }
        }
        return false;
    }

    private int dueRecords() {
        int set = 0;
        for (int record = 0; record < recordCount; record++) {
            if (has(presentRecords, record) && !isAnyOpen(purposesOfRecord[record],
                    subjectsOfRecord[record], dayAdded[record])) {
                set |= bit(record);
            }
        }
        return set;
    }

    private int endNow(int record) {
        int allowed = purposesOfRecord[record] & purposesAllowedBy(subjectsOfRecord[record]);
        int longest = 0;
        for (int purpose = 0; purpose < purposeCount; purpose++) {
            if (has(allowed, purpose)) {
                longest = Math.max(longest, retentionOfPurpose[purpose]);
            }
        }
        return dayAdded[record] + longest;
    }

    private void countDaysWithConsent(int days) {
        for (int subject = 0; subject < SUBJECTS; subject++) {
            for (int purpose = 0; purpose < purposeCount; purpose++) {
                if (has(consentsOfSubject[subject], purpose)) {
                    consentDays[consentIndex(subject, purpose)] += days;
                }
            }
        }
    }

    // ---- the way of a record to its erasure

    /** Requests present records and the present ones of all below them; returns how many. */
    private int requestWithAllBelow(int records) {
        int requested = withAllBelow(records) & presentRecords;
        presentRecords &= ~requested;
        requestedRecords |= requested;
        return Integer.bitCount(requested);
    }

    private int heldRecords() {
        int set = 0;
        for (int holder = 0; holder < CASES; holder++) {
            set |= recordsOfCase[holder];
        }
        return set;
    }

    private void moveToErased(int record) {
        requestedRecords &= ~bit(record);
        erasedRecords |= bit(record);
    }
}
