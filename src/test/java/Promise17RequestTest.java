/** Promise 17: request. */
public final class Promise17RequestTest {
    public static void main(String[] args) {
        personAndUnit();
        states();
        withdrawn();
        timesAtTheirEdges();
        closedHandedOut();
        noneSuch();
        anotherWhat();
        Check.end();
    }

    private static void personAndUnit() {
        Check x = new Check("0: the person, 1: the unit", 2);
        x.seat(59, 0);
        x.due(0, "ask", 59, 0, 0);
        x.due(1, "ask", 0, 79, 0);
        x.requestIs(0, 59, 0);
        x.requestIs(1, 0, 79);
    }

    private static void states() {
        Check x = new Check("2: the state, 3: when it was asked for, 4: when it was handed out, 5: when it was given back", 1);
        x.seat(7);
        x.due(0, "ask", 7, 31, 10);
        x.requestIs(0, 7, 31, 0, 10, -1, -1);
        x.due(0, "fetch", 31, 12);
        x.requestIs(0, 7, 31, 1, 10, -1, -1);
        x.due(7, "handOut", 31, 13);
        x.requestIs(0, 7, 31, 2, 10, 13, -1);
        x.due(0, "back", 31, 14);
        x.requestIs(0, 7, 31, 3, 10, 13, 14);
        x.due(1000, "look", 31, 0);
        x.due(0, "close", 20);
        x.requestIs(0, 7, 31, 3, 10, 13, 14);
    }

    private static void withdrawn() {
        Check x = new Check("4 GONE (the unit withdrawn)", 1);
        x.seat(7);
        x.due(0, "ask", 7, 31, 10);
        x.due(1, "restrict", 31, 1);
        x.requestIs(0, 7, 31, 4, 10, -1, -1);
        x.due(0, "close", 20);
        x.requestIs(0, 7, 31, 4, 10, -1, -1);
    }

    private static void timesAtTheirEdges() {
        Check x = new Check("Times are 0 .. 1000000000", 1);
        x.seat(7);
        x.borrowAndReturn(7, 31, 0, 0);
        x.requestIs(0, 7, 31, 3, 0, 0, 0);
        x.due(1000, "look", 31, 0);
        x.borrowAndReturn(7, 31, Check.LAST_TIME, 1);
        x.requestIs(1, 7, 31, 3, Check.LAST_TIME, Check.LAST_TIME, Check.LAST_TIME);
        x.requestIs(0, 7, 31, 3, 0, 0, 0);
    }

    private static void closedHandedOut() {
        Check x = new Check("5: when it was given back (or closed, handed out), or -1", 1);
        x.seat(0);
        x.due(0, "ask", 0, 0, 1);
        x.due(1, "ask", 0, 1, 1);
        x.due(1, "fetch", 1, 2);
        x.due(2, "ask", 0, 2, 3);
        x.due(2, "fetch", 2, 4);
        x.due(0, "handOut", 2, 5);
        x.due(2, "close", 6);
        x.requestIs(0, 0, 0, 4, 1, -1, -1);
        x.requestIs(1, 0, 1, 3, 1, -1, -1);
        x.requestIs(2, 0, 2, 3, 3, 5, 6);
        x.due(0, "close", 7);
        x.requestIs(2, 0, 2, 3, 3, 5, 6);
    }

    private static void noneSuch() {
        Check x = new Check("NoSuchElementException if there is none such", 1);
        x.missing("request", 0, 0);
        x.seat(0);
        x.due(0, "ask", 0, 0, 0);
        for (int what = 0; what < 6; what++) {
            for (int number : new int[] {-1, 1, 299, 300, Integer.MIN_VALUE, Integer.MAX_VALUE}) {
                x.missing("request", number, what);
            }
        }
        x.due(1, "ask", 0, 1, 0);
        x.due(1, "request", 1, 1);
        x.missing("request", 2, 1);
    }

    private static void anotherWhat() {
        Check x = new Check("NoSuchElementException for another what", 1);
        x.seat(0);
        x.due(0, "ask", 0, 0, 0);
        for (int what : new int[] {-1, 6, 7, Integer.MIN_VALUE, Integer.MAX_VALUE}) {
            x.missing("request", 0, what);
            x.missing("request", 1, what);
        }
        x.requestIs(0, 0, 0, 0, 0, -1, -1);
    }
}
