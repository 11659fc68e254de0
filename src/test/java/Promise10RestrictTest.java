/** Promise 10: restrict. */
public final class Promise10RestrictTest {
    public static void main(String[] args) {
        for (int restriction = 0; restriction <= 3; restriction++) {
            lowRightsAreGone(restriction);
        }
        onlyOpenRequests();
        onlyRequestsOfThisUnit();
        goneForGood();
        alreadyTooLow();
        none();
        range();
        Check.end();
    }

    private static void lowRightsAreGone(int restriction) {
        Check x = new Check("how many OPEN requests of persons with too low a right are GONE by it", 4);
        x.seat(0, 1, 2, 3);
        for (int person = 0; person < 4; person++) {
            x.due(1, "right", person, person);
            x.due(person, "ask", person, 20, 1);
        }
        x.due(restriction, "restrict", 20, restriction);
        x.unitIs(20, Check.STORE, 0, restriction, -1, 4 - restriction);
        for (int person = 0; person < 4; person++) {
            boolean gone = person < restriction;
            x.requestIs(person, person, 20, gone ? Check.GONE : Check.OPEN, 1, -1, -1);
            x.due(gone ? 0 : 1, "person", person, 2);
        }
        x.due(0, "restrict", 20, restriction);
        x.due(restriction, "fetch", 20, 1);
    }

    private static void onlyOpenRequests() {
        Check x = new Check("OPEN requests are GONE by it, no others", 4);
        x.seat(0, 1, 2, 3);
        x.wear(0, 20, 1, 0, 0);
        x.borrow(1, 20, 1, 1);
        x.due(2, "ask", 2, 20, 1);
        x.due(3, "ask", 3, 20, 1);
        x.due(4, "ask", 0, 21, 1);
        x.due(4, "fetch", 21, 1);
        x.due(2, "restrict", 20, 1);
        x.due(0, "restrict", 21, 3);
        x.requestIs(0, 0, 20, Check.DONE, 1, 1, 1);
        x.requestIs(1, 1, 20, Check.HANDED_OUT, 1, 1, -1);
        x.requestIs(2, 2, 20, Check.GONE, 1, -1, -1);
        x.requestIs(3, 3, 20, Check.GONE, 1, -1, -1);
        x.requestIs(4, 0, 21, Check.FETCHED, 1, -1, -1);
        x.unitIs(20, Check.PERSON, 0, 1, 1, 0);
        x.unitIs(21, Check.WAY, 0, 3, 4, 0);
        x.due(0, "restrict", 20, 3);
        x.due(1, "back", 20, 1);
        x.due(Check.IN_THE_STORE, "look", 20, 0);
    }

    private static void onlyRequestsOfThisUnit() {
        Check x = new Check("A unit's restriction", 1);
        x.seat(0);
        x.due(0, "ask", 0, 19, 1);
        x.due(1, "ask", 0, 20, 1);
        x.due(2, "ask", 0, 21, 1);
        x.due(1, "restrict", 20, 1);
        x.unitIs(19, Check.STORE, 0, 0, -1, 1);
        x.unitIs(20, Check.STORE, 0, 1, -1, 0);
        x.unitIs(21, Check.STORE, 0, 0, -1, 1);
        x.personIs(0, 0, -1, 2);
    }

    private static void goneForGood() {
        Check x = new Check("4 GONE (the unit withdrawn)", 1);
        x.seat(0);
        x.due(0, "ask", 0, 20, 1);
        x.due(1, "restrict", 20, 3);
        x.due(0, "restrict", 20, 0);
        x.unitIs(20, Check.STORE, 0, 0, -1, 0);
        x.requestIs(0, 0, 20, Check.GONE, 1, -1, -1);
        x.due(1, "ask", 0, 20, 1);
    }

    private static void alreadyTooLow() {
        Check x = new Check("how many OPEN requests of persons with too low a right are GONE by it", 1);
        x.seat(0);
        x.due(1, "right", 0, 2);
        x.due(0, "restrict", 20, 2);
        x.due(0, "ask", 0, 20, 1);
        x.due(1, "right", 0, 0);
        x.unitIs(20, Check.STORE, 0, 2, -1, 1);
        x.due(1, "restrict", 20, 1);
        x.unitIs(20, Check.STORE, 0, 1, -1, 0);
    }

    private static void none() {
        Check x = new Check("restrict: NONE", 1);
        x.seat(0);
        x.due(0, "ask", 0, 0, 1);
        x.due(1, "ask", 0, 79, 1);
        for (int unit : Check.noUnits()) {
            x.none("restrict", unit, 1);
        }
        x.due(1, "restrict", 0, 1);
        x.due(1, "restrict", 79, 1);
    }

    private static void range() {
        Check x = new Check("a RESTRICTION 0 (none) .. 3: RANGE", 1);
        x.seat(0);
        x.due(0, "ask", 0, 79, 1);
        for (int restriction : new int[] {-1, 4, Integer.MIN_VALUE, Integer.MAX_VALUE}) {
            x.range("restrict", 79, restriction);
        }
        x.due(0, "restrict", 79, 0);
        x.due(1, "restrict", 79, 3);
        x.range("restrict", 79, 4);
        x.range("restrict", 79, -1);
        x.unitIs(79, Check.STORE, 0, 3, -1, 0);
    }
}
