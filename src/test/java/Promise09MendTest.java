/** Promise 9: a unit in the store is mended. */
public final class Promise09MendTest {
    public static void main(String[] args) {
        ordinary();
        onlyInTheStore();
        wrongInputs();
        Check.end();
    }

    private static void ordinary() {
        for (int condition = 0; condition <= 3; condition++) {
            Check x = new Check("mend", 1);
            x.due(0, "come", 0);
            x.borrowAndReturn(0, 10, 1, 0);
            x.due(1000, "look", 10, condition);
            x.borrowAndReturn(0, 11, 1, 1);
            x.due(1000, "look", 11, 2);
            x.due(1, "mend", 10);
            x.unitIs(10, 0, 0, 0, -1, 0);
            x.unitIs(11, 0, 2, 0, -1, 0);
            x.due(1, "mend", 10);
        }
    }

    private static void onlyInTheStore() {
        Check x = new Check("place", 1);
        x.due(0, "come", 0);
        x.borrowAndReturn(0, 10, 1, 0);
        x.due(1000, "look", 10, 1);
        x.due(1, "ask", 0, 10, 1);
        x.due(1, "fetch", 10, 1);
        x.due(-3, "mend", 10);
        x.due(0, "handOut", 10, 1);
        x.due(-3, "mend", 10);
        x.due(1, "back", 10, 1);
        x.due(-3, "mend", 10);
        x.due(1, "unit", 10, 1);
        x.due(1, "close", 1);
        x.due(1, "unit", 10, 1);
        x.due(1, "mend", 10);
        x.due(0, "unit", 10, 1);
    }

    private static void wrongInputs() {
        Check x = new Check("wrong", 1);
        for (int unit : new int[] {-1, 80, Integer.MIN_VALUE, Integer.MAX_VALUE}) {
            x.due(-1, "mend", unit);
        }
        x.due(1, "mend", 0);
        x.due(1, "mend", 79);
    }
}
