import java.util.ArrayList;
import java.util.List;
import java.util.Set;
import java.util.TreeSet;

/**
 * The document's words once more, in their plainest form: every set is looked up anew from its
 * definition, and days pass one by one. It shares no way of reckoning with the program.
 */
final class Model {
    private static final class Purpose {
        int retention;
        boolean needsConsent;
    }

    private static final class Item {
        int number;
        int ownSubject;
        int dayAdded;
        int state = Privacyledger.PRESENT;
        final Set<Integer> purposes = new TreeSet<>();
        final Set<Item> sources = new TreeSet<>((a, b) -> a.number - b.number);
        final int[] used = new int[8];
    }

    private final List<Purpose> purposes = new ArrayList<>();
    private final List<Item> items = new ArrayList<>();
    private final List<Set<Integer>> consents = new ArrayList<>();
    private final List<Set<Integer>> cases = new ArrayList<>();
    private final int[][] consentDays = new int[12][8];
    private int day;

    Model() {
        for (int subject = 0; subject < 12; subject++) {
            consents.add(new TreeSet<>());
        }
        for (int holder = 0; holder < 6; holder++) {
            cases.add(new TreeSet<>());
        }
    }

    /** Answers the call of the face that bears this name; a boolean counts 1 or 0. */
    int answer(String name, int[] a) {
        switch (name) {
            case "addPurpose": return addPurpose(a[0], a[1] != 0);
            case "setRetention": return setRetention(a[0], a[1]);
            case "consent": return consent(a[0], a[1], a[2] != 0);
            case "consents": return asBits(consents.get(subject(a[0])));
            case "daysWithConsent": return consentDays[subject(a[0])][purpose(a[1])];
            case "add": return add(a[0], a[1]);
            case "derive": return derive(a[0], a[1]);
            case "addSource": return addSource(a[0], a[1]);
            case "records": return items.size();
            case "stateOf": return item(a[0]).state;
            case "subjectsOf": return asBits(subjectsOf(item(a[0])));
            case "below": return asBits(below(item(a[0])));
            case "endOf": return endOf(item(a[0]));
            case "whyNoUse": return whyNoUse(item(a[0]), purpose(a[1]));
            case "use": return use(item(a[0]), purpose(a[1]));
            case "uses": return uses(subject(a[0]), purpose(a[1]));
            case "passDays": return passDays(a[0]);
            case "day": return day;
            case "nextEnd": return nextEnd();
            case "hold": return hold(holder(a[0]), item(a[1]));
            case "close": return close(holder(a[0]));
            case "held": return asBits(held());
            case "request": return request(subject(a[0]));
            case "whyKept": return whyKept(item(a[0]));
            case "erase": return erase();
            case "eraseAll": return eraseAll();
            case "traces": return traces(subject(a[0]));
            case "tracesFromRoots": return tracesFromRoots(subject(a[0]));
            case "due": return due();
            default: throw new AssertionError(name);
        }
    }

    private int addPurpose(int retention, boolean needsConsent) {
        checkRetention(retention);
        require(purposes.size() < 8);
        Purpose purpose = new Purpose();
        purpose.retention = retention;
        purpose.needsConsent = needsConsent;
        purposes.add(purpose);
        return purposes.size() - 1;
    }

    private int setRetention(int number, int retention) {
        Purpose purpose = purposes.get(purpose(number));
        checkRetention(retention);
        int before = purpose.retention;
        purpose.retention = retention;
        return before;
    }

    private int consent(int subject, int purpose, boolean isGiven) {
        Set<Integer> given = consents.get(subject(subject));
        purpose(purpose);
        return (isGiven ? given.add(purpose) : given.remove(purpose)) ? 1 : 0;
    }

    private int add(int subject, int set) {
        Item item = new Item();
        item.ownSubject = subject(subject);
        return addItem(item, set);
    }

    private int derive(int source, int set) {
        Item item = new Item();
        item.sources.add(item(source));
        return addItem(item, set);
    }

    private int addItem(Item item, int set) {
        for (int bit = 0; bit < 32; bit++) {
            if ((set >>> bit & 1) == 1) {
                item.purposes.add(purpose(bit));
            }
        }
        if (item.purposes.isEmpty()) {
            throw new IllegalArgumentException();
        }
        require(items.size() < 30);
        for (Item source : item.sources) {
            require(source.state == Privacyledger.PRESENT);
        }
        item.dayAdded = day;
        require(!isDue(item));
        item.number = items.size();
        items.add(item);
        return item.number;
    }

    private int addSource(int record, int source) {
        Item lower = item(source);
        Item item = item(record);
        if (source >= record || item.sources.contains(lower)) {
            throw new IllegalArgumentException();
        }
        require(!item.sources.isEmpty());
        require(item.state == Privacyledger.PRESENT && lower.state == Privacyledger.PRESENT);
        item.sources.add(lower);
        return subjectsOf(item).size();
    }

    private Set<Integer> subjectsOf(Item item) {
        Set<Integer> subjects = new TreeSet<>();
        if (item.sources.isEmpty()) {
            subjects.add(item.ownSubject);
        }
        for (Item source : item.sources) {
            subjects.addAll(subjectsOf(source));
        }
        return subjects;
    }

    private Set<Integer> below(Item upper) {
        Set<Integer> below = new TreeSet<>();
        for (Item item : items) {
            if (item.sources.contains(upper)) {
                below.add(item.number);
                below.addAll(below(item));
            }
        }
        return below;
    }

    private boolean isAllowed(Item item, int purpose) {
        if (!purposes.get(purpose).needsConsent) {
            return true;
        }
        for (int subject : subjectsOf(item)) {
            if (!consents.get(subject).contains(purpose)) {
                return false;
            }
        }
        return true;
    }

    private boolean isDue(Item item) {
        for (int purpose : item.purposes) {
            if (isAllowed(item, purpose)
                    && day < item.dayAdded + purposes.get(purpose).retention) {
                return false;
            }
        }
        return true;
    }

    private int endOf(Item item) {
        int end = item.dayAdded;
        for (int purpose : item.purposes) {
            if (isAllowed(item, purpose)) {
                end = Math.max(end, item.dayAdded + purposes.get(purpose).retention);
            }
        }
        return end;
    }

    private int whyNoUse(Item item, int purpose) {
        if (item.state != Privacyledger.PRESENT) {
            return item.state == Privacyledger.ERASED ? 1 : 2;
        }
        if (!item.purposes.contains(purpose)) {
            return 3;
        }
        if (!isAllowed(item, purpose)) {
            return 4;
        }
        return day < item.dayAdded + purposes.get(purpose).retention ? 0 : 5;
    }

    private int use(Item item, int purpose) {
        require(whyNoUse(item, purpose) == 0);
        return ++item.used[purpose];
    }

    private int uses(int subject, int purpose) {
        return items.stream().filter(item -> subjectsOf(item).contains(subject))
                .mapToInt(item -> item.used[purpose]).sum();
    }

    private int passDays(int days) {
        if (days < 1 || days > 1000) {
            throw new IllegalArgumentException();
        }
        int before = countPresent();
        for (int passed = 0; passed < days; passed++) {
            for (int subject = 0; subject < 12; subject++) {
                for (int purpose : consents.get(subject)) {
                    consentDays[subject][purpose]++;
                }
            }
            day++;
            for (Item item : items) {
                if (item.state == Privacyledger.PRESENT && isDue(item)) {
                    requestWithBelow(item);
                }
            }
        }
        return before - countPresent();
    }

    private int countPresent() {
        return (int) items.stream().filter(item -> item.state == Privacyledger.PRESENT).count();
    }

    private void requestWithBelow(Item item) {
        item.state = Privacyledger.REQUESTED;
        for (int number : below(item)) {
            if (items.get(number).state == Privacyledger.PRESENT) {
                items.get(number).state = Privacyledger.REQUESTED;
            }
        }
    }

    private int nextEnd() {
        return items.stream().filter(item -> item.state == Privacyledger.PRESENT)
                .mapToInt(this::endOf).min().orElse(Privacyledger.NONE);
    }

    private int hold(int holder, Item item) {
        require(item.state != Privacyledger.ERASED);
        require(cases.get(holder).add(item.number));
        return cases.get(holder).size();
    }

    private int close(int holder) {
        int before = held().size();
        cases.get(holder).clear();
        return before - held().size();
    }

    private Set<Integer> held() {
        Set<Integer> held = new TreeSet<>();
        cases.forEach(held::addAll);
        return held;
    }

    private int request(int subject) {
        int before = countPresent();
        for (Item item : items) {
            if (item.state == Privacyledger.PRESENT && subjectsOf(item).contains(subject)) {
                requestWithBelow(item);
            }
        }
        return before - countPresent();
    }

    private int whyKept(Item item) {
        if (item.state != Privacyledger.REQUESTED) {
            return item.state == Privacyledger.ERASED ? 1 : 2;
        }
        if (held().contains(item.number)) {
            return 3;
        }
        for (int number : below(item)) {
            if (items.get(number).state != Privacyledger.ERASED) {
                return 4;
            }
        }
        return 0;
    }

    private int erase() {
        Item highest = null;
        for (Item item : items) {
            if (whyKept(item) == 0) {
                highest = item;
            }
        }
        if (highest == null) {
            return Privacyledger.NONE;
        }
        highest.state = Privacyledger.ERASED;
        return highest.number;
    }

    private int eraseAll() {
        int count = 0;
        while (erase() != Privacyledger.NONE) {
            count++;
        }
        return count;
    }

    private int traces(int subject) {
        Set<Integer> traces = new TreeSet<>();
        for (Item item : items) {
            if (subjectsOf(item).contains(subject) && item.state != Privacyledger.ERASED) {
                traces.add(item.number);
            }
        }
        return asBits(traces);
    }

    private int tracesFromRoots(int subject) {
        Set<Integer> reached = new TreeSet<>();
        for (Item item : items) {
            if (item.sources.isEmpty() && item.ownSubject == subject) {
                reached.add(item.number);
                reached.addAll(below(item));
            }
        }
        reached.removeIf(number -> items.get(number).state == Privacyledger.ERASED);
        return asBits(reached);
    }

    private int due() {
        Set<Integer> due = new TreeSet<>();
        for (Item item : items) {
            if (item.state == Privacyledger.PRESENT && isDue(item)) {
                due.add(item.number);
            }
        }
        return asBits(due);
    }

    private static int asBits(Set<Integer> numbers) {
        return numbers.stream().mapToInt(number -> 1 << number).sum();
    }

    private static int within(int number, int count) {
        if (number < 0 || number >= count) {
            throw new IndexOutOfBoundsException();
        }
        return number;
    }

    private static int subject(int number) {
        return within(number, 12);
    }

    private static int holder(int number) {
        return within(number, 6);
    }

    private int purpose(int number) {
        return within(number, purposes.size());
    }

    private Item item(int number) {
        return items.get(within(number, items.size()));
    }

    private static void checkRetention(int retention) {
        if (retention < 0 || retention > 3650) {
            throw new IllegalArgumentException();
        }
    }

    private static void require(boolean isSo) {
        if (!isSo) {
            throw new IllegalStateException();
        }
    }
}
