/** Promise 15: what is told of a unit. */
public final class Promise15UnitTest {
    public static void main(String[] args) {
        throughAllPlaces();
        wrongInputs();
        Check.end();
    }

    private static void throughAllPlaces() {
        Check x = new Check("unit", 2);
        x.due(0, "come", 0);
        x.due(1, "come", 1);
        x.due(1, "right", 0, 3);
        x.due(0, "ask", 0, 1, 1);
        x.due(0, "restrict", 79, 2);
        x.unitIs(79, 0, 0, 2, -1, 0);
        x.due(1, "ask", 0, 79, 1);
        x.due(1, "right", 1, 2);
        x.due(2, "ask", 1, 79, 1);
        x.unitIs(79, 0, 0, 2, -1, 2);
        x.due(1, "fetch", 79, 1);
        x.unitIs(79, 1, 0, 2, 1, 1);
        x.due(0, "handOut", 79, 1);
        x.unitIs(79, 2, 0, 2, 1, 1);
        x.due(1, "back", 79, 1);
        x.unitIs(79, 3, 0, 2, 1, 1);
        x.due(2, "look", 79, 1);
        x.unitIs(79, 1, 1, 2, 2, 0);
        x.due(1, "handOut", 79, 1);
        x.unitIs(79, 2, 1, 2, 2, 0);
        x.due(2, "back", 79, 1);
        x.due(1000, "look", 79, 3);
        x.unitIs(79, 0, 3, 2, -1, 0);
        x.unitIs(78, 0, 0, 0, -1, 0);
        x.unitIs(1, 0, 0, 0, -1, 1);
    }

    private static void wrongInputs() {
        Check x = new Check("wrong", 1);
        for (int wrong : new int[] {-1, 80, Integer.MIN_VALUE, Integer.MAX_VALUE}) {
            x.due(-1, "unit", wrong, 0);
            x.due(-1, "unit", 0, wrong);
        }
        x.due(-1, "unit", 0, 5);
        x.due(-1, "unit", 80, 4);
    }
}
