import java.util.Arrays;
import java.util.NoSuchElementException;

/** A reading room with seats and units, used by one caller at a time. */
public final class ReadingRoom {
    public static final int NONE = -1;
    public static final int RANGE = -2;
    public static final int STATE = -3;
    public static final int FULL = -4;
    public static final int RIGHT = -5;

    private static final int MOST_SEATS = 20;
    private static final int PERSONS = 60;
    private static final int UNITS = 80;
    private static final int MOST_REQUESTS = 300;
    private static final int LAST_TIME = 1000000000;
    private static final int DAY_LENGTH = 86400;

    private static final int HIGHEST_RIGHT = 3;
    private static final int FIRST_REQUEST_LIMIT = 3;
    private static final int HIGHEST_REQUEST_LIMIT = 9;
    private static final int FIRST_PAGE_LIMIT = 20;
    private static final int HIGHEST_PAGE_LIMIT = 500;
    private static final int MOST_PAGES_AT_ONCE = 500;

    private static final int IN_STORE = 0;
    private static final int ON_ITS_WAY = 1;
    private static final int WITH_PERSON = 2;
    private static final int AT_DESK = 3;

    private static final int GOOD = 0;
    private static final int WORST_TO_COPY = 1;
    private static final int WORST_TO_PASS_ON = 1;
    private static final int WORST_TO_FETCH = 2;
    private static final int WORST = 3;

    private static final int OPEN = 0;
    private static final int FETCHED = 1;
    private static final int HANDED_OUT = 2;
    private static final int DONE = 3;
    private static final int GONE = 4;

    private static final int NOTHING = -1;
    private static final int DONE_WELL = 1;
    private static final int FIRST_IN_ROW = -10;
    private static final int SEAT_LEFT_EMPTY = 100;
    private static final int WENT_TO_STORE = 1000;

    private final Seating seating;
    private final Readers readers;
    private final Holdings holdings;
    private final Requests requests;
    private int now;

    public ReadingRoom(int seats) {
        seating = new Seating(seats);
        readers = new Readers();
        holdings = new Holdings();
        requests = new Requests();
        now = 0;
    }

    public int come(int person) {
        if (!isPerson(person)) {
            return NONE;
        }
        if (seating.isPresent(person)) {
            return STATE;
        }
        return seating.admit(person);
    }

    public int leave(int person) {
        if (!isPerson(person)) {
            return NONE;
        }
        if (!seating.isPresent(person) || requests.countHandedOut(person) > 0) {
            return STATE;
        }
        return seating.release(person);
    }

    public int ask(int person, int unit, int t) {
        if (!isPerson(person) || !isUnit(unit)) {
            return NONE;
        }
        if (!isTime(t)) {
            return RANGE;
        }
        if (!seating.isSeated(person) || requests.isRunning(person, unit)) {
            return STATE;
        }
        if (isRightTooLow(person, unit)) {
            return RIGHT;
        }
        if (requests.countRunning(person) >= readers.requestLimitOf(person) || requests.isFull()) {
            return FULL;
        }
        now = t;
        return requests.add(person, unit, t);
    }

    public int fetch(int unit, int t) {
        if (!isUnit(unit)) {
            return NONE;
        }
        if (!isTime(t)) {
            return RANGE;
        }
        int ahead = requests.openOf(unit, 0);
        if (holdings.placeOf(unit) != IN_STORE || ahead == NOTHING
                || holdings.conditionOf(unit) > WORST_TO_FETCH) {
            return STATE;
        }
        now = t;
        sendFor(unit, ahead);
        return ahead;
    }

    public int handOut(int unit, int t) {
        if (!isUnit(unit)) {
            return NONE;
        }
        if (!isTime(t)) {
            return RANGE;
        }
        int number = holdings.requestOf(unit);
        int reader = requests.personOf(number);
        if (holdings.placeOf(unit) != ON_ITS_WAY || !seating.isSeated(reader)) {
            return STATE;
        }
        if (isRightTooLow(reader, unit)) {
            return RIGHT;
        }
        now = t;
        holdings.put(unit, WITH_PERSON, number);
        requests.markHandedOut(number, t);
        return reader;
    }

    public int back(int unit, int t) {
        if (!isUnit(unit)) {
            return NONE;
        }
        if (!isTime(t)) {
            return RANGE;
        }
        if (holdings.placeOf(unit) != WITH_PERSON) {
            return STATE;
        }
        now = t;
        int number = holdings.requestOf(unit);
        holdings.put(unit, AT_DESK, number);
        requests.markBack(number, t);
        return number;
    }

    public int look(int unit, int condition) {
        if (!isUnit(unit)) {
            return NONE;
        }
        if (!isWithin(condition, holdings.conditionOf(unit), WORST)) {
            return RANGE;
        }
        if (holdings.placeOf(unit) != AT_DESK) {
            return STATE;
        }
        holdings.setCondition(unit, condition);
        int ahead = requests.openOf(unit, 0);
        if (condition > WORST_TO_PASS_ON || ahead == NOTHING) {
            holdings.put(unit, IN_STORE, NOTHING);
            return WENT_TO_STORE;
        }
        sendFor(unit, ahead);
        return ahead;
    }

    public int mend(int unit) {
        if (!isUnit(unit)) {
            return NONE;
        }
        if (holdings.placeOf(unit) != IN_STORE) {
            return STATE;
        }
        holdings.setCondition(unit, GOOD);
        return DONE_WELL;
    }

    public int restrict(int unit, int restriction) {
        if (!isUnit(unit)) {
            return NONE;
        }
        if (!isWithin(restriction, 0, HIGHEST_RIGHT)) {
            return RANGE;
        }
        holdings.setRestriction(unit, restriction);
        return withdrawFromLowRights(unit);
    }

    public int right(int person, int right) {
        if (!isPerson(person)) {
            return NONE;
        }
        if (!isWithin(right, 0, HIGHEST_RIGHT)) {
            return RANGE;
        }
        readers.setRight(person, right);
        return DONE_WELL;
    }

    public int limit(int person, int requests, int pages) {
        if (!isPerson(person)) {
            return NONE;
        }
        if (!isWithin(requests, 0, HIGHEST_REQUEST_LIMIT) || !isWithin(pages, 0, HIGHEST_PAGE_LIMIT)) {
            return RANGE;
        }
        readers.setLimits(person, requests, pages);
        return DONE_WELL;
    }

    public int copy(int unit, int pages, int t) {
        if (!isUnit(unit)) {
            return NONE;
        }
        if (!isWithin(pages, 1, MOST_PAGES_AT_ONCE) || !isTime(t)) {
            return RANGE;
        }
        if (holdings.placeOf(unit) != WITH_PERSON || holdings.conditionOf(unit) > WORST_TO_COPY) {
            return STATE;
        }
        int reader = requests.personOf(holdings.requestOf(unit));
        int day = t / DAY_LENGTH;
        if (pages > readers.pagesLeft(reader, day)) {
            return FULL;
        }
        now = t;
        readers.addCopied(reader, day, pages);
        return readers.pagesLeft(reader, day);
    }

    public int close(int t) {
        if (!isTime(t)) {
            return RANGE;
        }
        now = t;
        requests.endAll(t);
        seating.clear();
        return holdings.storeAll();
    }

    public int unit(int unit, int what) {
        if (!isUnit(unit)) {
            return NONE;
        }
        switch (what) {
            case 0:
                return holdings.placeOf(unit);
            case 1:
                return holdings.conditionOf(unit);
            case 2:
                return holdings.restrictionOf(unit);
            case 3:
                return holdings.requestOf(unit);
            case 4:
                return requests.countOpen(unit);
            default:
                return NONE;
        }
    }

    public int person(int person, int what) {
        if (!isPerson(person)) {
            return NONE;
        }
        switch (what) {
            case 0:
                return seating.seatOf(person);
            case 1:
                return seating.placeInRow(person);
            case 2:
                return requests.countRunning(person);
            case 3:
                return requests.countHandedOut(person);
            case 4:
                return readers.copiedLatelyBy(person);
            default:
                return NONE;
        }
    }

    public int request(int i, int what) throws NoSuchElementException {
        if (!requests.has(i)) {
            throw new NoSuchElementException("no such request");
        }
        switch (what) {
            case 0:
                return requests.personOf(i);
            case 1:
                return requests.unitOf(i);
            case 2:
                return requests.stateOf(i);
            case 3:
                return requests.askedAt(i);
            case 4:
                return requests.handedOutAt(i);
            case 5:
                return requests.backAt(i);
            default:
                throw new NoSuchElementException("nothing such of a request");
        }
    }

    public int waits(int unit, int i) throws NoSuchElementException {
        int number = requests.openOf(unit, i);
        if (number == NOTHING) {
            throw new NoSuchElementException("no such open request");
        }
        return number;
    }

    private static boolean isWithin(int number, int least, int most) {
        return number >= least && number <= most;
    }

    private static boolean isPerson(int person) {
        return isWithin(person, 0, PERSONS - 1);
    }

    private static boolean isUnit(int unit) {
        return isWithin(unit, 0, UNITS - 1);
    }

    private boolean isTime(int t) {
        return isWithin(t, now, LAST_TIME);
    }

    private boolean isRightTooLow(int person, int unit) {
        return readers.rightOf(person) < holdings.restrictionOf(unit);
    }

    private void sendFor(int unit, int number) {
        holdings.put(unit, ON_ITS_WAY, number);
        requests.setState(number, FETCHED);
    }

    private int withdrawFromLowRights(int unit) {
        int withdrawn = 0;
        for (int number = 0; number < MOST_REQUESTS; number++) {
            if (requests.isOpenFor(number, unit) && isRightTooLow(requests.personOf(number), unit)) {
                requests.setState(number, GONE);
                withdrawn++;
            }
        }
        return withdrawn;
    }

    /** Who sits where, and the row of those that wait: somebody waits only while no seat is free. */
    private static final class Seating {
        private final int seats;
        private final int[] sitters = new int[MOST_SEATS];
        private final int[] row = new int[PERSONS];
        private int rowLength;

        Seating(int wanted) {
            seats = Math.max(0, Math.min(MOST_SEATS, wanted));
            Arrays.fill(sitters, NOTHING);
        }

        boolean isSeated(int person) {
            return seatOf(person) != NOTHING;
        }

        boolean isPresent(int person) {
            return isSeated(person) || placeInRow(person) != NOTHING;
        }

        int seatOf(int person) {
            // an empty seat holds NOTHING, so what is no person must not be looked for
            return isPerson(person) ? firstSeatWith(person) : NOTHING;
        }

        int placeInRow(int person) {
            for (int place = 0; place < rowLength; place++) {
                if (row[place] == person) {
                    return place;
                }
            }
            return NOTHING;
        }

        int admit(int person) {
            int seat = firstSeatWith(NOTHING);
            if (seat != NOTHING) {
                sitters[seat] = person;
                return seat;
            }
            int place = rowLength;
            if (place < PERSONS) {
                row[place] = person;
                rowLength++;
            }
            return FIRST_IN_ROW - place;
        }

        int release(int person) {
            int seat = seatOf(person);
            if (seat == NOTHING) {
                dropFromRow(placeInRow(person));
                return SEAT_LEFT_EMPTY;
            }
            if (rowLength == 0) {
                sitters[seat] = NOTHING;
                return SEAT_LEFT_EMPTY;
            }
            sitters[seat] = row[0];
            dropFromRow(0);
            return sitters[seat];
        }

        void clear() {
            Arrays.fill(sitters, NOTHING);
            rowLength = 0;
        }

        private int firstSeatWith(int sitter) {
            for (int seat = 0; seat < seats; seat++) {
                if (sitters[seat] == sitter) {
                    return seat;
                }
            }
            return NOTHING;
        }

        private void dropFromRow(int place) {
            if (!isWithin(place, 0, rowLength - 1)) {
                return;
            }
            for (int later = place + 1; later < rowLength; later++) {
                row[later - 1] = row[later];
            }
            rowLength--;
        }
    }

    /** What stays with the persons over a closing: rights, limits, pages copied. */
    private static final class Readers {
        private final int[] rights = new int[PERSONS];
        private final int[] requestLimits = new int[PERSONS];
        private final int[] pageLimits = new int[PERSONS];
        private final int[] copyDays = new int[PERSONS];
        private final int[] copiedPages = new int[PERSONS];

        Readers() {
            Arrays.fill(requestLimits, FIRST_REQUEST_LIMIT);
            Arrays.fill(pageLimits, FIRST_PAGE_LIMIT);
        }

        int rightOf(int person) {
            return isPerson(person) ? rights[person] : 0;
        }

        int requestLimitOf(int person) {
            return isPerson(person) ? requestLimits[person] : 0;
        }

        int copiedLatelyBy(int person) {
            return isPerson(person) ? copiedPages[person] : 0;
        }

        /** Below 0 if the limit was lowered after the copying. */
        int pagesLeft(int person, int day) {
            return isPerson(person) ? pageLimits[person] - copiedOn(person, day) : 0;
        }

        void setRight(int person, int right) {
            if (isPerson(person)) {
                rights[person] = right;
            }
        }

        void setLimits(int person, int requestLimit, int pageLimit) {
            if (isPerson(person)) {
                requestLimits[person] = requestLimit;
                pageLimits[person] = pageLimit;
            }
        }

        void addCopied(int person, int day, int pages) {
            if (isPerson(person)) {
                copiedPages[person] = copiedOn(person, day) + pages;
                copyDays[person] = day;
            }
        }

        private int copiedOn(int person, int day) {
            return isPerson(person) && copyDays[person] == day ? copiedPages[person] : 0;
        }
    }

    /** Where the units are, for which request, and in what condition. */
    private static final class Holdings {
        private final int[] places = new int[UNITS];
        private final int[] conditions = new int[UNITS];
        private final int[] restrictions = new int[UNITS];
        private final int[] requestNumbers = new int[UNITS];

        Holdings() {
            Arrays.fill(requestNumbers, NOTHING);
        }

        int placeOf(int unit) {
            return isUnit(unit) ? places[unit] : NOTHING;
        }

        int conditionOf(int unit) {
            return isUnit(unit) ? conditions[unit] : NOTHING;
        }

        int restrictionOf(int unit) {
            return isUnit(unit) ? restrictions[unit] : NOTHING;
        }

        int requestOf(int unit) {
            return isUnit(unit) ? requestNumbers[unit] : NOTHING;
        }

        void put(int unit, int place, int number) {
            if (isUnit(unit)) {
                places[unit] = place;
                requestNumbers[unit] = number;
            }
        }

        void setCondition(int unit, int condition) {
            if (isUnit(unit)) {
                conditions[unit] = condition;
            }
        }

        void setRestriction(int unit, int restriction) {
            if (isUnit(unit)) {
                restrictions[unit] = restriction;
            }
        }

        int storeAll() {
            int moved = 0;
            for (int unit = 0; unit < UNITS; unit++) {
                if (places[unit] != IN_STORE) {
                    put(unit, IN_STORE, NOTHING);
                    moved++;
                }
            }
            return moved;
        }
    }

    /** All requests ever made, by number; one that is OPEN, FETCHED or HANDED OUT is running. */
    private static final class Requests {
        private final int[] persons = new int[MOST_REQUESTS];
        private final int[] units = new int[MOST_REQUESTS];
        private final int[] states = new int[MOST_REQUESTS];
        private final int[] askTimes = new int[MOST_REQUESTS];
        private final int[] handOutTimes = new int[MOST_REQUESTS];
        private final int[] backTimes = new int[MOST_REQUESTS];
        private int count;

        boolean has(int number) {
            return isWithin(number, 0, count - 1);
        }

        boolean isFull() {
            return count >= MOST_REQUESTS;
        }

        int personOf(int number) {
            return has(number) ? persons[number] : NOTHING;
        }

        int unitOf(int number) {
            return has(number) ? units[number] : NOTHING;
        }

        int stateOf(int number) {
            return has(number) ? states[number] : NOTHING;
        }

        int askedAt(int number) {
            return has(number) ? askTimes[number] : NOTHING;
        }

        int handedOutAt(int number) {
            return has(number) ? handOutTimes[number] : NOTHING;
        }

        int backAt(int number) {
            return has(number) ? backTimes[number] : NOTHING;
        }

        boolean isOpenFor(int number, int unit) {
            return has(number) && units[number] == unit && states[number] == OPEN;
        }

        boolean isRunning(int person, int unit) {
            for (int number = 0; number < count; number++) {
                if (isRunningBy(number, person) && units[number] == unit) {
                    return true;
                }
            }
            return false;
        }

        int countRunning(int person) {
            int found = 0;
            for (int number = 0; number < count; number++) {
                if (isRunningBy(number, person)) {
                    found++;
                }
            }
            return found;
        }

        int countHandedOut(int person) {
            int found = 0;
            for (int number = 0; number < count; number++) {
                if (persons[number] == person && states[number] == HANDED_OUT) {
                    found++;
                }
            }
            return found;
        }

        int countOpen(int unit) {
            int found = 0;
            for (int number = 0; number < count; number++) {
                if (isOpenFor(number, unit)) {
                    found++;
                }
            }
            return found;
        }

        int openOf(int unit, int index) {
            int passed = 0;
            for (int number = 0; number < count; number++) {
                if (isOpenFor(number, unit)) {
                    if (passed == index) {
                        return number;
                    }
                    passed++;
                }
            }
            return NOTHING;
        }

        int add(int person, int unit, int t) {
            if (isFull()) {
                return FULL;
            }
            int number = count;
            persons[number] = person;
            units[number] = unit;
            states[number] = OPEN;
            askTimes[number] = t;
            handOutTimes[number] = NOTHING;
            backTimes[number] = NOTHING;
            count++;
            return number;
        }

        void setState(int number, int state) {
            if (has(number)) {
                states[number] = state;
            }
        }

        void markHandedOut(int number, int t) {
            if (has(number)) {
                states[number] = HANDED_OUT;
                handOutTimes[number] = t;
            }
        }

        void markBack(int number, int t) {
            if (has(number)) {
                states[number] = DONE;
                backTimes[number] = t;
            }
        }

        void endAll(int t) {
            for (int number = 0; number < count; number++) {
                endAtClosing(number, t);
            }
        }

        private void endAtClosing(int number, int t) {
            switch (stateOf(number)) {
                case OPEN:
                    setState(number, GONE);
                    break;
                case FETCHED:
                    // it never reached its person, so it has no time of giving back
                    setState(number, DONE);
                    break;
                case HANDED_OUT:
                    markBack(number, t);
                    break;
                default:
                    break;
            }
        }

        private boolean isRunningBy(int number, int person) {
            return has(number) && persons[number] == person && states[number] <= HANDED_OUT;
        }
    }
}
