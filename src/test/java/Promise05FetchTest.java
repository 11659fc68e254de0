/** Promise 5: a unit is fetched for the request that goes ahead. */
public final class Promise05FetchTest {
    public static void main(String[] args) {
        leastNumberGoesAhead();
        notInTheStore();
        conditions();
        wrongInputs();
        Check.end();
    }

    private static void leastNumberGoesAhead() {
        Check x = new Check("fetch", 3);
        x.due(0, "come", 2);
        x.due(1, "come", 1);
        x.due(2, "come", 0);
        x.due(0, "ask", 0, 78, 1);
        x.due(1, "ask", 2, 79, 1);
        x.due(2, "ask", 0, 79, 1);
        x.due(3, "ask", 1, 79, 1);
        x.due(1, "fetch", 79, 2);
        x.unitIs(79, 1, 0, 0, 1, 2);
        x.unitIs(78, 0, 0, 0, -1, 1);
        x.requestIs(1, 2, 79, 1, 1, -1, -1);
        x.requestIs(2, 0, 79, 0, 1, -1, -1);
        x.due(0, "fetch", 78, 2);
        x.due(1, "person", 2, 2);
    }

    private static void notInTheStore() {
        Check x = new Check("not in the store", 2);
        x.due(0, "come", 0);
        x.due(1, "come", 1);
        x.due(-3, "fetch", 5, 0);
        x.due(0, "ask", 0, 5, 0);
        x.due(1, "ask", 1, 5, 0);
        x.due(0, "fetch", 5, 0);
        x.due(-3, "fetch", 5, 0);
        x.due(0, "handOut", 5, 0);
        x.due(-3, "fetch", 5, 0);
        x.due(0, "back", 5, 0);
        x.due(-3, "fetch", 5, 0);
        x.due(1000, "look", 5, 2);
        x.due(1, "fetch", 5, 0);
        x.due(1, "handOut", 5, 0);
        x.due(1, "back", 5, 0);
        x.due(1000, "look", 5, 2);
        x.due(-3, "fetch", 5, 0);
    }

    private static void conditions() {
        Check x = new Check("condition", 1);
        x.due(0, "come", 0);
        for (int condition = 1; condition <= 3; condition++) {
            x.borrowAndReturn(0, 5, 0, condition - 1);
            x.due(1000, "look", 5, condition);
        }
        x.due(3, "ask", 0, 5, 0);
        x.due(-3, "fetch", 5, 0);
        x.unitIs(5, 0, 3, 0, -1, 1);
        x.requestIs(3, 0, 5, 0, 0, -1, -1);
        x.due(1, "mend", 5);
        x.due(3, "fetch", 5, 0);
    }

    private static void wrongInputs() {
        Check x = new Check("wrong", 1);
        x.due(0, "come", 0);
        x.due(0, "ask", 0, 0, 50);
        for (int unit : new int[] {-1, 80, Integer.MIN_VALUE, Integer.MAX_VALUE}) {
            x.due(-1, "fetch", unit, 50);
            x.due(-1, "fetch", unit, -1);
        }
        for (int t : new int[] {-1, 49, 1000000001, Integer.MIN_VALUE, Integer.MAX_VALUE}) {
            x.due(-2, "fetch", 0, t);
            x.due(-2, "fetch", 1, t);
        }
        x.due(0, "fetch", 0, 60);
        x.due(-2, "fetch", 0, 59);
        x.due(-3, "fetch", 0, 60);
    }
}
