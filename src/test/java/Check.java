import java.util.ArrayList;
import java.util.List;

/**
 * One ReadingRoom under test, for the sentence of the document that is its title: makes calls by name and prints
 * every one whose answer is not the one due.
 */
final class Check {
    static final int STORE = 0;
    static final int WAY = 1;
    static final int PERSON = 2;
    static final int DESK = 3;

    static final int OPEN = 0;
    static final int FETCHED = 1;
    static final int HANDED_OUT = 2;
    static final int DONE = 3;
    static final int GONE = 4;

    static final int NOBODY_HAS_THE_SEAT = 100;
    static final int IN_THE_STORE = 1000;
    static final int LAST_TIME = 1000000000;

    private static final int[] NO_PERSONS = {-1, 60, Integer.MIN_VALUE, Integer.MAX_VALUE};
    private static final int[] NO_UNITS = {-1, 80, Integer.MIN_VALUE, Integer.MAX_VALUE};
    private static final int[] NO_TIMES = {-1, LAST_TIME + 1, Integer.MIN_VALUE, Integer.MAX_VALUE};

    private static final int PATIENCE_MILLIS = 120_000;
    private static final int PROMISED_CALLS = 512;
    private static int wrong = 0;

    static {
        // a call that never ends must fail the test, not hang the run
        Thread watchdog = new Thread(Check::giveUp);
        watchdog.setDaemon(true);
        watchdog.start();
    }

    private final String title;
    private final int seats;
    private final ReadingRoom room;
    private final List<Call> run = new ArrayList<>();

    Check(String title, int seats) {
        this.title = title;
        this.seats = seats;
        this.room = new ReadingRoom(seats);
    }

    static int[] noPersons() {
        return NO_PERSONS.clone();
    }

    static int[] noUnits() {
        return NO_UNITS.clone();
    }

    static int[] noTimes() {
        return NO_TIMES.clone();
    }

    /** The call answers this. */
    void due(int want, String name, int... arguments) {
        Call call = new Call(name, arguments);
        int got = answer(call);
        if (got != want) {
            report(call + " answered " + Call.tell(got) + ", due is " + Call.tell(want));
        }
        run.add(call);
    }

    /** The call is not refused. */
    void taken(String name, int... arguments) {
        Call call = new Call(name, arguments);
        int got = answer(call);
        if (got < 0) {
            report(call + " was refused with " + Call.tell(got));
        }
        run.add(call);
    }

    /** The call answers NONE, and nothing happens. */
    void none(String name, int... arguments) {
        refused(-1, name, arguments);
    }

    /** The call answers RANGE, and nothing happens. */
    void range(String name, int... arguments) {
        refused(-2, name, arguments);
    }

    /** The call answers STATE, and nothing happens. */
    void state(String name, int... arguments) {
        refused(-3, name, arguments);
    }

    /** The call answers FULL, and nothing happens. */
    void full(String name, int... arguments) {
        refused(-4, name, arguments);
    }

    /** The call answers RIGHT, and nothing happens. */
    void right(String name, int... arguments) {
        refused(-5, name, arguments);
    }

    /** The call throws NoSuchElementException, and nothing happens. */
    void missing(String name, int... arguments) {
        refused(Call.MISSING, name, arguments);
    }

    /** All that unit(..) tells of a unit: place, condition, restriction, request, open requests. */
    void unitIs(int unit, int... wants) {
        dueEach("unit", unit, wants);
    }

    /** All that person(..) tells: seat, place in the row, requests, units, pages copied. */
    void personIs(int person, int... wants) {
        dueEach("person", person, wants);
    }

    /** All that request(..) tells: person, unit, state, asked, handed out, given back. */
    void requestIs(int number, int... wants) {
        dueEach("request", number, wants);
    }

    /** Persons that come, each to the next seat from 0 on. */
    void seat(int... persons) {
        for (int seat = 0; seat < persons.length; seat++) {
            due(seat, "come", persons[seat]);
        }
    }

    /** A unit is asked for, fetched and handed out, all at one time. */
    void borrow(int person, int unit, int t, int number) {
        due(number, "ask", person, unit, t);
        due(number, "fetch", unit, t);
        due(person, "handOut", unit, t);
    }

    /** The same, and then it is given back to the desk. */
    void borrowAndReturn(int person, int unit, int t, int number) {
        borrow(person, unit, t, number);
        due(number, "back", unit, t);
    }

    /** The same, and then it is put into the store in this condition. */
    void wear(int person, int unit, int t, int number, int condition) {
        borrowAndReturn(person, unit, t, number);
        due(IN_THE_STORE, "look", unit, condition);
    }

    static void due(String what, Object got, Object want) {
        if (!want.equals(got)) {
            wrong++;
            System.out.println(what + " is " + got + ", due is " + want);
        }
    }

    static void end() {
        if (wrong != 0) {
            System.out.println(wrong + " answers are not as due");
            System.exit(1);
        }
    }

    private int answer(Call call) {
        if (run.size() == PROMISED_CALLS) {
            throw new AssertionError(title + ": a test makes more calls than the document speaks of");
        }
        return call.answer(room);
    }

    private void refused(int want, String name, int... arguments) {
        List<Call> before = List.copyOf(run);
        due(want, name, arguments);
        String changed = Aftermath.ofOneCall(seats, before, new Call(name, arguments));
        if (changed != null) {
            report(new Call(name, arguments) + " was refused, but " + changed);
        }
    }

    private void dueEach(String name, int number, int[] wants) {
        for (int what = 0; what < wants.length; what++) {
            due(wants[what], name, number, what);
        }
    }

    private void report(String fault) {
        wrong++;
        System.out.println(title + ": " + fault);
        if (wrong == 1) {
            System.out.println("  after new ReadingRoom(" + seats + ") " + run);
        }
    }

    private static void giveUp() {
        try {
            Thread.sleep(PATIENCE_MILLIS);
        } catch (InterruptedException e) {
            return;
        }
        System.out.println("the test did not end in time");
        Runtime.getRuntime().halt(1);
    }
}
