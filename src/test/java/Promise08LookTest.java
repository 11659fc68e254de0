/** Promise 8: a unit at the desk is looked at. */
public final class Promise08LookTest {
    public static void main(String[] args) {
        passedOnIfBelowTwo();
        toTheStore();
        neverBetter();
        onlyAtTheDesk();
        lowRightsArePassedOnTo();
        wrongInputs();
        Check.end();
    }

    private static void passedOnIfBelowTwo() {
        for (int condition = 0; condition <= 3; condition++) {
            Check x = new Check("passed on", 3);
            x.due(0, "come", 0);
            x.due(1, "come", 1);
            x.due(2, "come", 2);
            x.borrow(0, 6, 1, 0);
            x.due(1, "ask", 2, 6, 1);
            x.due(2, "ask", 1, 6, 1);
            x.due(0, "back", 6, 1);
            boolean passedOn = condition < 2;
            x.due(passedOn ? 1 : 1000, "look", 6, condition);
            x.unitIs(6, passedOn ? 1 : 0, condition, 0, passedOn ? 1 : -1, passedOn ? 1 : 2);
            x.requestIs(0, 0, 6, 3, 1, 1, 1);
            x.requestIs(1, 2, 6, passedOn ? 1 : 0, 1, -1, -1);
            x.requestIs(2, 1, 6, 0, 1, -1, -1);
            x.due(passedOn ? 2 : -3, "handOut", 6, 1);
        }
    }

    private static void toTheStore() {
        for (int condition = 0; condition <= 3; condition++) {
            Check x = new Check("store", 1);
            x.due(0, "come", 0);
            x.due(0, "ask", 0, 5, 1);
            x.borrowAndReturn(0, 6, 1, 1);
            x.due(1000, "look", 6, condition);
            x.unitIs(6, 0, condition, 0, -1, 0);
            x.due(1, "unit", 5, 4);
        }
    }

    private static void neverBetter() {
        Check x = new Check("better", 1);
        x.due(0, "come", 0);
        x.borrowAndReturn(0, 6, 1, 0);
        x.due(1000, "look", 6, 2);
        x.borrowAndReturn(0, 6, 1, 1);
        x.due(-2, "look", 6, 0);
        x.due(-2, "look", 6, 1);
        x.unitIs(6, 3, 2, 0, 1, 0);
        x.due(1000, "look", 6, 2);
        x.due(-2, "look", 6, 1);
        x.due(-3, "look", 6, 2);
        x.due(1, "mend", 6);
        x.due(-3, "look", 6, 1);
    }

    private static void onlyAtTheDesk() {
        Check x = new Check("place", 1);
        x.due(0, "come", 0);
        x.due(-3, "look", 6, 1);
        x.due(0, "ask", 0, 6, 1);
        x.due(0, "fetch", 6, 1);
        x.due(-3, "look", 6, 1);
        x.due(0, "handOut", 6, 1);
        x.due(-3, "look", 6, 1);
        x.unitIs(6, 2, 0, 0, 0, 0);
        x.due(0, "back", 6, 1);
        x.due(1000, "look", 6, 1);
    }

    private static void lowRightsArePassedOnTo() {
        Check x = new Check("rights play no part", 2);
        x.due(0, "come", 0);
        x.due(1, "come", 1);
        x.due(1, "right", 1, 2);
        x.borrow(0, 6, 1, 0);
        x.due(0, "restrict", 6, 1);
        x.due(1, "ask", 1, 6, 1);
        x.due(1, "right", 1, 0);
        x.due(0, "back", 6, 1);
        x.due(1, "look", 6, 0);
        x.due(-5, "handOut", 6, 1);
    }

    private static void wrongInputs() {
        Check x = new Check("wrong", 1);
        x.due(0, "come", 0);
        x.borrowAndReturn(0, 79, 1, 0);
        for (int unit : new int[] {-1, 80, Integer.MIN_VALUE, Integer.MAX_VALUE}) {
            x.due(-1, "look", unit, 0);
            x.due(-1, "look", unit, 4);
        }
        for (int condition : new int[] {-1, 4, Integer.MIN_VALUE, Integer.MAX_VALUE}) {
            x.due(-2, "look", 79, condition);
            x.due(-2, "look", 0, condition);
        }
        x.due(1000, "look", 79, 3);
    }
}
