/** Promise 9: mend. */
public final class Promise09MendTest {
    public static void main(String[] args) {
        for (int condition = 0; condition <= 3; condition++) {
            goodAgain(condition);
        }
        none();
        stateIfItIsNotInTheStore();
        Check.end();
    }

    private static void goodAgain(int condition) {
        Check x = new Check("A unit in the store is mended: good again: 1", 1);
        x.seat(0);
        x.due(1, "right", 0, 2);
        x.due(0, "restrict", 10, 2);
        x.wear(0, 10, 1, 0, condition);
        x.wear(0, 11, 1, 1, 2);
        x.due(2, "ask", 0, 10, 1);
        x.due(1, "mend", 10);
        x.unitIs(10, Check.STORE, 0, 2, -1, 1);
        x.unitIs(11, Check.STORE, 2, 0, -1, 0);
        x.due(1, "mend", 10);
        x.due(2, "fetch", 10, 1);
    }

    private static void none() {
        Check x = new Check("mend: NONE", 1);
        for (int unit : Check.noUnits()) {
            x.none("mend", unit);
        }
        x.due(1, "mend", 0);
        x.due(1, "mend", 79);
    }

    private static void stateIfItIsNotInTheStore() {
        Check x = new Check("STATE if it is not in the store", 1);
        x.seat(0);
        x.wear(0, 10, 1, 0, 1);
        x.due(1, "ask", 0, 10, 1);
        x.due(1, "fetch", 10, 1);
        x.state("mend", 10);
        x.due(0, "handOut", 10, 1);
        x.state("mend", 10);
        x.due(1, "back", 10, 1);
        x.state("mend", 10);
        x.due(1, "close", 1);
        x.unitIs(10, Check.STORE, 1, 0, -1, 0);
        x.due(1, "mend", 10);
        x.unitIs(10, Check.STORE, 0, 0, -1, 0);
    }
}
