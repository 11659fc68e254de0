/** Promise 7: back. */
public final class Promise07BackTest {
    public static void main(String[] args) {
        toTheDesk();
        none();
        range();
        stateIfNobodyHasIt();
        rightAndConditionPlayNoPart();
        Check.end();
    }

    private static void toTheDesk() {
        Check x = new Check("A unit is given back, to the desk: its request", 2);
        x.seat(0, 1);
        x.due(0, "ask", 1, 40, 1);
        x.borrow(0, 41, 2, 1);
        x.borrow(0, 42, 2, 2);
        x.due(3, "ask", 1, 41, 3);
        x.due(1, "back", 41, 7);
        x.unitIs(41, Check.DESK, 0, 0, 1, 1);
        x.unitIs(42, Check.PERSON, 0, 0, 2, 0);
        x.requestIs(1, 0, 41, Check.DONE, 2, 2, 7);
        x.requestIs(2, 0, 42, Check.HANDED_OUT, 2, 2, -1);
        x.requestIs(3, 1, 41, Check.OPEN, 3, -1, -1);
        x.personIs(0, 0, -1, 1, 1, 0);
        x.due(2, "back", 42, 7);
        x.personIs(0, 0, -1, 0, 0, 0);
    }

    private static void none() {
        Check x = new Check("back: NONE", 1);
        x.seat(0);
        x.borrow(0, 0, 5, 0);
        x.borrow(0, 79, 5, 1);
        for (int unit : Check.noUnits()) {
            x.none("back", unit, 5);
        }
        x.due(0, "back", 0, 5);
        x.due(1, "back", 79, 5);
    }

    private static void range() {
        Check x = new Check("back: RANGE", 1);
        x.seat(0);
        x.borrow(0, 0, 0, 0);
        x.borrow(0, 1, 0, 1);
        for (int t : Check.noTimes()) {
            x.range("back", 0, t);
        }
        x.due(0, "back", 0, 0);
        x.due(1, "back", 1, Check.LAST_TIME);
        x.due(0, "request", 0, 5);
        x.due(Check.LAST_TIME, "request", 1, 5);
    }

    private static void stateIfNobodyHasIt() {
        Check x = new Check("STATE if nobody has it", 1);
        x.seat(0);
        x.state("back", 40, 0);
        x.due(0, "ask", 0, 40, 0);
        x.state("back", 40, 0);
        x.due(0, "fetch", 40, 0);
        x.state("back", 40, 0);
        x.due(0, "handOut", 40, 0);
        x.state("back", 41, 0);
        x.due(0, "back", 40, 0);
        x.state("back", 40, 0);
        x.due(Check.IN_THE_STORE, "look", 40, 0);
        x.state("back", 40, 0);
        x.borrow(0, 40, 0, 1);
        x.due(1, "close", 0);
        x.state("back", 40, 0);
    }

    private static void rightAndConditionPlayNoPart() {
        Check x = new Check("nothing is said of right and condition", 1);
        x.seat(0);
        x.wear(0, 40, 0, 0, 2);
        x.borrow(0, 40, 0, 1);
        x.due(0, "restrict", 40, 3);
        x.due(1, "back", 40, 0);
        x.unitIs(40, Check.DESK, 2, 3, 1, 0);
    }
}
