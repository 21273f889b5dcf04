import java.util.List;

/** The sentences of the document from outside its promises, for the tests that are for them. */
final class Terms {
    static final String WHAT_IT_IS =
            "A ledger of personal data: which records there are of whom, for which purposes they"
            + " may be used and until when, what was derived from what, which cases hold them, and"
            + " how they are erased so that nothing derived is left behind.";
    static final String DESK =
            "The calls are those of a data protection desk: purposes are set up, consents given and"
            + " withdrawn, records added and derived, days pass, erasure is asked for and done"
            + " record by record; everything can be asked at any time.";
    static final String LAST_CALL =
            "An object is used for at most 512 calls after it has been made; what later calls"
            + " answer is free.";
    static final String REFUSED_CALLS =
            "A call that throws an exception changes nothing; if several exceptions apply, the"
            + " one that its throws clause names first is thrown.";
    static final String DAY = "The day is a number, 0 at first.";
    static final String NUMBERS =
            "Subjects (persons) are numbered 0 to 11, purposes from 0 in the order in which they"
            + " are added, up to 8, records from 0 in the order in which they are added, up to 30,"
            + " cases 0 to 5.";
    static final String SETS =
            "A set is a number with the bit k for the subject, purpose or record k.";
    static final String PURPOSES =
            "A purpose has a retention, in days, and needs consent or does not.";
    static final String CONSENTS =
            "Each subject consents to some purposes, to none at first, whether they need consent"
            + " or not.";
    static final String DAYS_WITH_CONSENT =
            "A day counts as a day with consent if consent is given as the day ends, that is, as"
            + " the next day begins.";
    static final String ROOTS = "A root record is of one subject.";
    static final String DERIVED =
            "A derived record has one or more sources, which are records with lower numbers, and"
            + " is of all subjects of its sources.";
    static final String RECORDS =
            "Each record has a set of purposes, and the day on which it was added.";
    static final String STATES =
            "A record is present at first, and can become requested and then erased.";
    static final String BELOW =
            "A record is below another one if that is one of its sources, or is above one of its"
            + " sources; then the other one is above it.";
    static final String OPEN =
            "A purpose of a record is open if two things are so: it needs no consent, or all"
            + " subjects of the record consent to it; and the day is less than the day on which the"
            + " record was added and the retention of the purpose, together.";
    static final String DUE = "A record is due if none of its purposes is open.";
    static final String END =
            "The end of a record is the greatest sum of the day on which it was added and the"
            + " retention of a purpose, over those of its purposes that need no consent or to which"
            + " all of its subjects consent now; it is the day on which it was added if there is no"
            + " such purpose.";
    static final String REQUESTED_BELOW =
            "When a record is requested, all records below it that are present are requested,"
            + " too.";
    static final String STAYS_REQUESTED = "A requested record stays that until it is erased.";
    static final String HELD =
            "A case can hold records; a record is held as long as some case holds it.";
    static final String CAN_BE_ERASED =
            "A requested record can be erased if it is not held and all records below it are"
            + " erased.";
    static final String DAY_BEGINS =
            "When a day begins, all present records that are due then are requested.";
    static final String NONE = "The constants: `NONE = -1`: There is no such record or day.";
    static final String STATE_NUMBERS =
            "`PRESENT = 0, REQUESTED = 1, ERASED = 2`: The states of a record.";
    /** What the interface says ahead of its calls, in their order. */
    static final List<String> HEADINGS = List.of(
            "Ahead of the calls `addPurpose`, `setRetention`, `consent`, `consents`,"
            + " `daysWithConsent` the interface says: ---- purposes and consents.",
            "Ahead of the calls `add`, `derive`, `addSource`, `records`, `stateOf`, `subjectsOf`,"
            + " `below`, `endOf` the interface says: ---- records.",
            "Ahead of the calls `whyNoUse`, `use`, `uses` the interface says: ---- use.",
            "Ahead of the calls `passDays`, `day`, `nextEnd` the interface says: ---- days.",
            "Ahead of the calls `hold`, `close`, `held` the interface says: ---- cases.",
            "Ahead of the calls `request`, `whyKept`, `erase`, `eraseAll` the interface says:"
            + " ---- erasing.",
            "Ahead of the calls `traces`, `tracesFromRoots`, `due` the interface says:"
            + " ---- traces.");

    private Terms() {
    }
}
