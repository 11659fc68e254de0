import java.lang.reflect.InvocationTargetException;
import java.lang.reflect.Method;
import java.util.ArrayList;
import java.util.Arrays;
import java.util.List;
import java.util.NoSuchElementException;
import java.util.stream.Collectors;

/** One ReadingRoom under test: makes calls by name and prints every one whose answer is not the one due. */
final class Check {
    private static final int PATIENCE_MILLIS = 120_000;
    private static final int MISSING = Integer.MIN_VALUE;
    private static final int PROMISED_CALLS = 512;
    private static int wrong = 0;

    static {
        // a call that never ends must fail the test, not hang the run
        Thread watchdog = new Thread(Check::giveUp);
        watchdog.setDaemon(true);
        watchdog.start();
    }

    private final ReadingRoom room;
    private final String title;
    private final List<String> made = new ArrayList<>();

    Check(String title, int seats) {
        this.title = title;
        this.room = new ReadingRoom(seats);
        made.add("new ReadingRoom(" + seats + ")");
    }

    /** The call answers this. */
    void due(int want, String name, int... arguments) {
        compare(want, answer(name, arguments), name, arguments);
    }

    /** The call throws NoSuchElementException. */
    void missing(String name, int... arguments) {
        compare(MISSING, answer(name, arguments), name, arguments);
    }

    /** All that unit(..) tells of a unit: place, condition, restriction, request, open requests. */
    void unitIs(int unit, int... wants) {
        for (int what = 0; what < wants.length; what++) {
            due(wants[what], "unit", unit, what);
        }
    }

    /** All that person(..) tells: seat, place in the row, requests, units, pages copied. */
    void personIs(int person, int... wants) {
        for (int what = 0; what < wants.length; what++) {
            due(wants[what], "person", person, what);
        }
    }

    /** All that request(..) tells: person, unit, state, asked, handed out, given back. */
    void requestIs(int number, int... wants) {
        for (int what = 0; what < wants.length; what++) {
            due(wants[what], "request", number, what);
        }
    }

    /** A unit is asked for, fetched and handed out, all at one time. */
    void borrow(int person, int unit, int t, int number) {
        due(number, "ask", person, unit, t);
        due(number, "fetch", unit, t);
        due(person, "handOut", unit, t);
    }

    /** The same, and then it is given back to the desk. */
    void borrowAndReturn(int person, int unit, int t, int number) {
        borrow(person, unit, t, number);
        due(number, "back", unit, t);
    }

    static void due(String what, Object got, Object want) {
        if (!want.equals(got)) {
            wrong++;
            System.out.println(what + " is " + got + ", due is " + want);
        }
    }

    static void end() {
        if (wrong != 0) {
            System.out.println(wrong + " answers are not as due");
            System.exit(1);
        }
    }

    private void compare(int want, int got, String name, int[] arguments) {
        made.add(tell(name, arguments) + " " + tell(got));
        if (made.size() - 1 > PROMISED_CALLS) {
            throw new AssertionError(title + ": a test makes more calls than the document speaks of");
        }
        if (got != want) {
            wrong++;
            System.out.println(title + ": " + tell(name, arguments) + " answered " + tell(got)
                    + ", due is " + tell(want));
            if (wrong == 1) {
                System.out.println("  after " + made);
            }
        }
    }

    private int answer(String name, int[] arguments) {
        Object[] boxed = Arrays.stream(arguments).boxed().toArray();
        try {
            return (Integer) method(name).invoke(room, boxed);
        } catch (InvocationTargetException e) {
            if (e.getCause().getClass() == NoSuchElementException.class) {
                return MISSING;
            }
            throw new AssertionError(title + ": " + tell(name, arguments) + " after " + made, e.getCause());
        } catch (IllegalAccessException e) {
            throw new AssertionError(e);
        }
    }

    private static Method method(String name) {
        for (Method method : ReadingRoom.class.getMethods()) {
            if (method.getName().equals(name)) {
                return method;
            }
        }
        throw new AssertionError("no method " + name);
    }

    private static String tell(String name, int[] arguments) {
        return Arrays.stream(arguments).mapToObj(Integer::toString).collect(Collectors.joining(", ", name + "(", ")"));
    }

    private static String tell(int answer) {
        return answer == MISSING ? "throws.NoSuchElementException" : Integer.toString(answer);
    }

    private static void giveUp() {
        try {
            Thread.sleep(PATIENCE_MILLIS);
        } catch (InterruptedException e) {
            return;
        }
        System.out.println("the test did not end in time");
        Runtime.getRuntime().halt(1);
    }
}
