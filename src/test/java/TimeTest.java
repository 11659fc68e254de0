import java.util.List;

/** The terms: times are 0 .. 1000000000 and never go back. */
public final class TimeTest {
    private static final List<String> CALLS = List.of("ask", "fetch", "handOut", "back", "copy", "close");

    public static void main(String[] args) {
        for (String later : CALLS) {
            theFirstAndTheLastTime(later);
            for (String earlier : CALLS) {
                neverGoBack(earlier, later);
            }
        }
        callsWithoutATimeLeaveItAsItIs();
        refusedCallsLeaveItAsItWas();
        Check.end();
    }

    private static void theFirstAndTheLastTime(String call) {
        Check first = prepared("Times are 0 .. 1000000000", 0);
        for (int t : Check.noTimes()) {
            first.range(call, at(call, 0, t));
        }
        first.taken(call, at(call, 0, 0));

        Check last = prepared("Times are 0 .. 1000000000", 0);
        last.range(call, at(call, 0, Check.LAST_TIME + 1));
        last.taken(call, at(call, 0, Check.LAST_TIME));
        last.range("close", Check.LAST_TIME - 1);
        last.taken("close", Check.LAST_TIME);
    }

    /** Person 1 moves the time on by one call, and person 0 is held to it in another. */
    private static void neverGoBack(String earlier, String later) {
        Check x = prepared("a time below the greatest one is out of range", 10);
        x.range(earlier, at(earlier, 1, 9));
        x.taken(earlier, at(earlier, 1, 100));
        x.range(later, at(later, 0, 99));
        x.range(later, at(later, 0, 10));
        if (earlier.equals("close") && !later.equals("close")) {
            x.state(later, at(later, 0, 100));
        } else {
            x.taken(later, at(later, 0, 100));
        }
    }

    /**
     * Persons 0 and 1 are ready for every call with a time: of person p, unit 10p is not asked for, unit 10p + 1 is
     * OPEN, 10p + 2 is on its way, 10p + 3 and 10p + 4 are handed out.
     */
    private static Check prepared(String title, int t) {
        Check x = new Check(title, 2);
        for (int person = 0; person < 2; person++) {
            x.due(person, "come", person);
            x.due(1, "limit", person, 9, 20);
            x.due(person * 4, "ask", person, person * 10 + 1, t);
            x.due(person * 4 + 1, "ask", person, person * 10 + 2, t);
            x.due(person * 4 + 1, "fetch", person * 10 + 2, t);
            x.borrow(person, person * 10 + 3, t, person * 4 + 2);
            x.borrow(person, person * 10 + 4, t, person * 4 + 3);
        }
        return x;
    }

    private static int[] at(String call, int person, int t) {
        switch (call) {
            case "ask": return new int[] {person, person * 10, t};
            case "fetch": return new int[] {person * 10 + 1, t};
            case "handOut": return new int[] {person * 10 + 2, t};
            case "back": return new int[] {person * 10 + 3, t};
            case "copy": return new int[] {person * 10 + 4, 1, t};
            default: return new int[] {t};
        }
    }

    private static void callsWithoutATimeLeaveItAsItIs() {
        Check x = new Check("calls without a time", 1);
        x.seat(0);
        x.borrowAndReturn(0, 0, 50, 0);
        x.due(1000, "look", 0, 1);
        x.due(1, "mend", 0);
        x.due(0, "restrict", 0, 1);
        x.due(1, "right", 0, 1);
        x.due(1, "limit", 0, 1, 1);
        x.due(100, "leave", 0);
        x.due(0, "come", 0);
        x.range("close", 49);
        x.due(0, "close", 50);
    }

    private static void refusedCallsLeaveItAsItWas() {
        Check x = new Check("the greatest time that a call was given, and not refused for; nothing happens then", 1);
        x.state("ask", 0, 0, 100);
        x.none("ask", 60, 0, 100);
        x.seat(0);
        x.due(0, "restrict", 1, 1);
        x.right("ask", 0, 1, 100);
        x.due(0, "restrict", 1, 0);
        x.due(1, "limit", 0, 0, 20);
        x.full("ask", 0, 0, 100);
        x.due(1, "limit", 0, 3, 20);
        x.range("ask", 0, 0, Check.LAST_TIME + 1);
        x.none("fetch", 80, 100);
        x.state("fetch", 0, 100);
        x.none("handOut", 80, 100);
        x.state("handOut", 0, 100);
        x.none("back", 80, 100);
        x.state("back", 0, 100);
        x.none("copy", 80, 1, 100);
        x.state("copy", 0, 1, 100);
        x.due(0, "ask", 0, 0, 1);
        x.due(0, "fetch", 0, 2);
        x.due(0, "restrict", 0, 1);
        x.right("handOut", 0, 100);
        x.due(1, "right", 0, 1);
        x.due(0, "handOut", 0, 3);
        x.full("copy", 0, 21, 100);
        x.range("copy", 0, 0, 100);
        x.due(10, "copy", 0, 10, 4);
        x.due(0, "back", 0, 5);
        x.due(1, "close", 6);
    }
}
