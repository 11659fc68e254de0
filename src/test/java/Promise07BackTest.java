/** Promise 7: a unit is given back, to the desk. */
public final class Promise07BackTest {
    public static void main(String[] args) {
        ordinary();
        nobodyHasIt();
        wrongInputs();
        Check.end();
    }

    private static void ordinary() {
        Check x = new Check("back", 2);
        x.due(0, "come", 0);
        x.due(1, "come", 1);
        x.due(0, "ask", 1, 40, 1);
        x.borrow(0, 41, 2, 1);
        x.due(2, "ask", 1, 41, 3);
        x.due(1, "back", 41, 7);
        x.unitIs(41, 3, 0, 0, 1, 1);
        x.requestIs(1, 0, 41, 3, 2, 2, 7);
        x.requestIs(2, 1, 41, 0, 3, -1, -1);
        x.personIs(0, 0, -1, 0, 0, 0);
        x.due(-2, "fetch", 40, 6);
        x.due(0, "fetch", 40, 7);
    }

    private static void nobodyHasIt() {
        Check x = new Check("nobody has it", 1);
        x.due(0, "come", 0);
        x.due(-3, "back", 40, 0);
        x.due(0, "ask", 0, 40, 0);
        x.due(-3, "back", 40, 0);
        x.due(0, "fetch", 40, 0);
        x.due(-3, "back", 40, 0);
        x.due(0, "handOut", 40, 0);
        x.due(-3, "back", 41, 0);
        x.due(0, "back", 40, 0);
        x.due(-3, "back", 40, 0);
        x.due(1000, "look", 40, 0);
        x.due(-3, "back", 40, 0);
    }

    private static void wrongInputs() {
        Check x = new Check("wrong", 1);
        x.due(0, "come", 0);
        x.borrow(0, 0, 50, 0);
        for (int unit : new int[] {-1, 80, Integer.MIN_VALUE, Integer.MAX_VALUE}) {
            x.due(-1, "back", unit, 50);
            x.due(-1, "back", unit, -1);
        }
        for (int t : new int[] {-1, 49, 1000000001, Integer.MIN_VALUE, Integer.MAX_VALUE}) {
            x.due(-2, "back", 0, t);
            x.due(-2, "back", 1, t);
        }
        x.due(0, "back", 0, 1000000000);
        x.due(1000000000, "request", 0, 5);
    }
}
