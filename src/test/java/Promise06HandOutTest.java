/** Promise 6: handOut. */
public final class Promise06HandOutTest {
    public static void main(String[] args) {
        toWhom();
        none();
        range();
        stateIfItIsNotOnItsWay();
        stateIfItsPersonHasNoSeat();
        rightLoweredByNow();
        restrictionRaisedByNow();
        Check.end();
    }

    private static void toWhom() {
        Check x = new Check("A unit that is on its way is handed out: to whom", 3);
        x.seat(8, 59, 0);
        x.due(0, "ask", 59, 3, 1);
        x.due(1, "ask", 8, 3, 2);
        x.due(2, "ask", 0, 4, 2);
        x.due(0, "fetch", 3, 3);
        x.due(2, "fetch", 4, 3);
        x.due(59, "handOut", 3, 4);
        x.unitIs(3, Check.PERSON, 0, 0, 0, 1);
        x.unitIs(4, Check.WAY, 0, 0, 2, 0);
        x.personIs(59, 1, -1, 1, 1, 0);
        x.personIs(8, 0, -1, 1, 0, 0);
        x.requestIs(0, 59, 3, Check.HANDED_OUT, 1, 4, -1);
        x.requestIs(1, 8, 3, Check.OPEN, 2, -1, -1);
        x.due(0, "handOut", 4, 4);
    }

    private static void none() {
        Check x = new Check("handOut: NONE", 1);
        x.seat(0);
        x.due(0, "ask", 0, 0, 5);
        x.due(1, "ask", 0, 79, 5);
        x.due(0, "fetch", 0, 5);
        x.due(1, "fetch", 79, 5);
        for (int unit : Check.noUnits()) {
            x.none("handOut", unit, 5);
        }
        x.due(0, "handOut", 0, 5);
        x.due(0, "handOut", 79, 5);
    }

    private static void range() {
        Check x = new Check("handOut: RANGE", 1);
        x.seat(0);
        x.due(0, "ask", 0, 0, 0);
        x.due(1, "ask", 0, 1, 0);
        x.due(0, "fetch", 0, 0);
        x.due(1, "fetch", 1, 0);
        for (int t : Check.noTimes()) {
            x.range("handOut", 0, t);
        }
        x.due(0, "handOut", 0, 0);
        x.due(0, "handOut", 1, Check.LAST_TIME);
        x.due(0, "request", 0, 4);
        x.due(Check.LAST_TIME, "request", 1, 4);
    }

    private static void stateIfItIsNotOnItsWay() {
        Check x = new Check("STATE if it is not on its way", 1);
        x.seat(0);
        x.state("handOut", 3, 0);
        x.due(0, "ask", 0, 3, 0);
        x.state("handOut", 3, 0);
        x.due(0, "fetch", 3, 0);
        x.state("handOut", 4, 0);
        x.due(0, "handOut", 3, 0);
        x.state("handOut", 3, 0);
        x.due(0, "back", 3, 0);
        x.state("handOut", 3, 0);
        x.due(Check.IN_THE_STORE, "look", 3, 0);
        x.state("handOut", 3, 0);
        x.due(1, "ask", 0, 3, 0);
        x.due(1, "fetch", 3, 0);
        x.due(1, "close", 0);
        x.seat(0);
        x.state("handOut", 3, 0);
    }

    private static void stateIfItsPersonHasNoSeat() {
        Check x = new Check("STATE if its person has no seat", 1);
        x.seat(0);
        x.due(0, "ask", 0, 3, 0);
        x.due(0, "fetch", 3, 0);
        x.due(100, "leave", 0);
        x.state("handOut", 3, 0);
        x.due(0, "come", 1);
        x.state("handOut", 3, 0);
        x.due(-10, "come", 0);
        x.state("handOut", 3, 0);
        x.due(0, "leave", 1);
        x.due(0, "handOut", 3, 0);
    }

    private static void rightLoweredByNow() {
        Check x = new Check("RIGHT if that person's right is too low by now", 1);
        x.seat(0);
        x.due(1, "right", 0, 3);
        x.due(0, "restrict", 3, 2);
        x.due(0, "ask", 0, 3, 0);
        x.due(0, "fetch", 3, 0);
        x.due(1, "right", 0, 1);
        x.right("handOut", 3, 0);
        x.due(1, "right", 0, 0);
        x.right("handOut", 3, 0);
        x.due(1, "right", 0, 2);
        x.due(0, "handOut", 3, 0);
    }

    private static void restrictionRaisedByNow() {
        Check x = new Check("RIGHT if that person's right is too low by now", 2);
        x.seat(0, 1);
        x.due(1, "right", 0, 1);
        x.due(1, "right", 1, 3);
        x.due(0, "ask", 0, 3, 0);
        x.due(0, "fetch", 3, 0);
        x.due(0, "restrict", 3, 2);
        x.right("handOut", 3, 0);
        x.due(0, "restrict", 3, 1);
        x.due(0, "handOut", 3, 0);
    }
}
