/** Promise 14: close. */
public final class Promise14CloseTest {
    public static void main(String[] args) {
        nothingIsOut();
        unitsGoBack();
        everyUnitIsOut();
        requestsEnd();
        nobodyHasASeatNobodyWaits();
        limitsAndRightsStay();
        conditionsAndRestrictionsStay();
        range();
        Check.end();
    }

    private static void nothingIsOut() {
        Check x = new Check("CLOSING: how many units went back", 2);
        x.due(0, "close", 0);
        x.seat(0, 1);
        x.due(0, "ask", 0, 0, 0);
        x.wear(1, 1, 0, 1, 1);
        x.due(0, "close", 0);
        x.due(0, "close", 0);
    }

    private static void unitsGoBack() {
        Check x = new Check("all units that are on their way, with persons or at the desk go back to the store", 2);
        x.seat(0, 1);
        x.due(1, "limit", 0, 9, 20);
        x.due(0, "ask", 0, 0, 1);
        x.due(0, "fetch", 0, 1);
        x.borrow(0, 1, 1, 1);
        x.borrowAndReturn(0, 2, 1, 2);
        x.due(3, "ask", 0, 3, 1);
        x.borrow(1, 79, 1, 4);
        x.due(4, "close", 9);
        for (int unit = 0; unit < 4; unit++) {
            x.unitIs(unit, Check.STORE, 0, 0, -1, 0);
        }
        x.unitIs(79, Check.STORE, 0, 0, -1, 0);
        x.due(0, "close", 9);
    }

    private static void everyUnitIsOut() {
        Check x = new Check("CLOSING: how many units went back", 20);
        for (int person = 0; person < 10; person++) {
            x.due(person, "come", person);
            x.due(1, "limit", person, 9, 0);
        }
        for (int unit = 0; unit < 80; unit++) {
            x.borrow(unit % 10, unit, unit, unit);
        }
        x.due(80, "close", 80);
        for (int unit = 0; unit < 80; unit++) {
            x.unitIs(unit, Check.STORE);
            x.due(80, "request", unit, 5);
        }
        x.due(0, "close", 80);
    }

    private static void requestsEnd() {
        Check x = new Check("FETCHED and HANDED OUT requests are DONE, OPEN ones GONE", 2);
        x.seat(0, 1);
        x.due(1, "limit", 0, 9, 20);
        x.wear(0, 0, 1, 0, 1);
        x.borrowAndReturn(0, 1, 2, 1);
        x.borrow(0, 2, 3, 2);
        x.due(3, "ask", 1, 3, 4);
        x.due(3, "fetch", 3, 4);
        x.due(4, "ask", 1, 4, 4);
        x.due(5, "ask", 0, 3, 4);
        x.due(6, "ask", 0, 5, 4);
        x.due(1, "restrict", 5, 1);
        x.due(3, "close", 9);
        x.requestIs(0, 0, 0, Check.DONE, 1, 1, 1);
        x.requestIs(1, 0, 1, Check.DONE, 2, 2, 2);
        x.requestIs(2, 0, 2, Check.DONE, 3, 3, 9);
        x.requestIs(3, 1, 3, Check.DONE, 4, -1, -1);
        x.requestIs(4, 1, 4, Check.GONE, 4, -1, -1);
        x.requestIs(5, 0, 3, Check.GONE, 4, -1, -1);
        x.requestIs(6, 0, 5, Check.GONE, 4, -1, -1);
        x.personIs(0, -1, -1, 0, 0, 0);
        x.personIs(1, -1, -1, 0, 0, 0);
        x.due(0, "close", 10);
        x.requestIs(2, 0, 2, Check.DONE, 3, 3, 9);
        x.missing("waits", 4, 0);
    }

    private static void nobodyHasASeatNobodyWaits() {
        Check x = new Check("nobody has a seat, nobody waits", 2);
        x.seat(0, 1);
        x.due(-10, "come", 2);
        x.due(-11, "come", 59);
        x.due(0, "close", 9);
        for (int person : new int[] {0, 1, 2, 59}) {
            x.personIs(person, -1, -1);
            x.state("leave", person);
        }
        x.seat(59, 1);
        x.due(-10, "come", 0);
        x.due(0, "leave", 59);
    }

    private static void limitsAndRightsStay() {
        Check x = new Check("limits, rights stay", 1);
        x.due(1, "limit", 0, 1, 4);
        x.due(1, "right", 0, 2);
        x.due(0, "restrict", 0, 2);
        x.due(0, "restrict", 1, 3);
        x.due(0, "close", 0);
        x.seat(0);
        x.right("ask", 0, 1, 0);
        x.borrow(0, 0, 0, 0);
        x.full("ask", 0, 2, 0);
        x.full("copy", 0, 5, 0);
        x.due(0, "copy", 0, 4, 0);
    }

    private static void conditionsAndRestrictionsStay() {
        Check x = new Check("nothing is said of conditions and restrictions: they stay", 1);
        x.seat(0);
        x.due(1, "right", 0, 2);
        x.due(0, "restrict", 0, 2);
        x.wear(0, 0, 0, 0, 1);
        x.borrow(0, 0, 0, 1);
        x.due(1, "close", 0);
        x.unitIs(0, Check.STORE, 1, 2, -1, 0);
    }

    private static void range() {
        Check x = new Check("close: RANGE", 1);
        for (int t : Check.noTimes()) {
            x.range("close", t);
        }
        x.due(0, "close", 0);
        x.seat(0);
        x.due(-10, "come", 1);
        x.borrow(0, 1, 10, 0);
        x.due(1, "ask", 0, 0, 10);
        x.range("close", 9);
        for (int t : Check.noTimes()) {
            x.range("close", t);
        }
        x.due(1, "close", 10);
        x.due(0, "close", Check.LAST_TIME);
        x.range("close", Check.LAST_TIME - 1);
        x.due(0, "close", Check.LAST_TIME);
    }
}
