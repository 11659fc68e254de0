/** Promise 8: look. */
public final class Promise08LookTest {
    public static void main(String[] args) {
        for (int condition = 0; condition <= 3; condition++) {
            itsConditionIsSoAndItGoesToTheStore(condition);
            belowTwoItIsOnItsWay(condition);
        }
        anotherRequestOfTheSamePerson();
        requestsOfOtherUnitsAndEndedOnes();
        rightAndSeatPlayNoPart();
        none();
        rangeIfItIsNot0To3();
        rangeIfItIsBetterThanItWas();
        stateIfItIsNotAtTheDesk();
        Check.end();
    }

    private static void itsConditionIsSoAndItGoesToTheStore(int condition) {
        Check x = new Check("its condition is so from now on, and it goes to the store; 1000", 1);
        x.seat(0);
        x.due(0, "ask", 0, 5, 1);
        x.borrowAndReturn(0, 6, 1, 1);
        x.due(1000, "look", 6, condition);
        x.unitIs(6, Check.STORE, condition, 0, -1, 0);
        x.unitIs(5, Check.STORE, 0, 0, -1, 1);
        x.requestIs(1, 0, 6, Check.DONE, 1, 1, 1);
    }

    private static void belowTwoItIsOnItsWay(int condition) {
        Check x = new Check("if its condition is below 2 and another request of it is OPEN, it is ON ITS WAY for that", 3);
        x.seat(0, 1, 2);
        x.borrow(0, 6, 1, 0);
        x.due(1, "ask", 2, 6, 1);
        x.due(2, "ask", 1, 6, 1);
        x.due(0, "back", 6, 1);
        if (condition < 2) {
            x.due(1, "look", 6, condition);
            x.unitIs(6, Check.WAY, condition, 0, 1, 1);
            x.requestIs(1, 2, 6, Check.FETCHED, 1, -1, -1);
            x.requestIs(2, 1, 6, Check.OPEN, 1, -1, -1);
            x.state("fetch", 6, 1);
            x.due(2, "handOut", 6, 1);
        } else {
            x.due(1000, "look", 6, condition);
            x.unitIs(6, Check.STORE, condition, 0, -1, 2);
            x.requestIs(1, 2, 6, Check.OPEN, 1, -1, -1);
            x.state("handOut", 6, 1);
        }
        x.requestIs(0, 0, 6, Check.DONE, 1, 1, 1);
    }

    private static void anotherRequestOfTheSamePerson() {
        Check x = new Check("another request of it is OPEN", 1);
        x.seat(0);
        x.borrowAndReturn(0, 6, 1, 0);
        x.due(1, "ask", 0, 6, 1);
        x.due(1, "look", 6, 1);
        x.unitIs(6, Check.WAY, 1, 0, 1, 0);
        x.due(0, "handOut", 6, 1);
    }

    private static void requestsOfOtherUnitsAndEndedOnes() {
        Check x = new Check("another request of it is OPEN", 2);
        x.seat(0, 1);
        x.due(0, "ask", 1, 5, 1);
        x.borrow(0, 6, 1, 1);
        x.due(2, "ask", 1, 6, 1);
        x.due(1, "restrict", 6, 1);
        x.due(1, "back", 6, 1);
        x.due(1000, "look", 6, 0);
        x.requestIs(2, 1, 6, Check.GONE, 1, -1, -1);
    }

    private static void rightAndSeatPlayNoPart() {
        Check x = new Check("nothing is said of the next person's right and seat", 2);
        x.seat(0, 1);
        x.due(1, "right", 1, 2);
        x.borrow(0, 6, 1, 0);
        x.due(0, "restrict", 6, 1);
        x.due(1, "ask", 1, 6, 1);
        x.due(1, "right", 1, 0);
        x.due(100, "leave", 1);
        x.due(0, "back", 6, 1);
        x.due(1, "look", 6, 0);
        x.state("handOut", 6, 1);
        x.due(1, "come", 1);
        x.right("handOut", 6, 1);
    }

    private static void none() {
        Check x = new Check("look: NONE", 1);
        x.seat(0);
        x.borrowAndReturn(0, 0, 1, 0);
        x.borrowAndReturn(0, 79, 1, 1);
        for (int unit : Check.noUnits()) {
            x.none("look", unit, 0);
        }
        x.due(1000, "look", 0, 0);
        x.due(1000, "look", 79, 0);
    }

    private static void rangeIfItIsNot0To3() {
        Check x = new Check("RANGE if it is not 0 .. 3", 1);
        x.seat(0);
        x.borrowAndReturn(0, 6, 1, 0);
        x.borrowAndReturn(0, 7, 1, 1);
        for (int condition : new int[] {-1, 4, Integer.MIN_VALUE, Integer.MAX_VALUE}) {
            x.range("look", 6, condition);
        }
        x.due(1000, "look", 6, 0);
        x.due(1000, "look", 7, 3);
    }

    private static void rangeIfItIsBetterThanItWas() {
        Check x = new Check("RANGE if it is better than it was", 1);
        x.seat(0);
        x.wear(0, 6, 1, 0, 1);
        x.borrowAndReturn(0, 6, 1, 1);
        x.range("look", 6, 0);
        x.due(1000, "look", 6, 1);
        x.wear(0, 6, 1, 2, 2);
        x.borrowAndReturn(0, 6, 1, 3);
        x.range("look", 6, 0);
        x.range("look", 6, 1);
        x.due(1000, "look", 6, 2);
        x.borrowAndReturn(0, 6, 1, 4);
        x.due(1000, "look", 6, 3);
        x.due(1, "mend", 6);
        x.borrowAndReturn(0, 6, 1, 5);
        x.due(1000, "look", 6, 0);
    }

    private static void stateIfItIsNotAtTheDesk() {
        Check x = new Check("STATE if it is not at the desk", 1);
        x.seat(0);
        x.state("look", 6, 1);
        x.state("look", 6, 0);
        x.due(0, "ask", 0, 6, 1);
        x.state("look", 6, 1);
        x.due(0, "fetch", 6, 1);
        x.state("look", 6, 1);
        x.due(0, "handOut", 6, 1);
        x.state("look", 6, 1);
        x.due(0, "back", 6, 1);
        x.state("look", 7, 1);
        x.due(1000, "look", 6, 1);
        x.state("look", 6, 1);
        x.borrowAndReturn(0, 6, 1, 1);
        x.due(1, "close", 1);
        x.state("look", 6, 1);
    }
}
