/** Promise 6: a unit on its way is handed out. */
public final class Promise06HandOutTest {
    public static void main(String[] args) {
        ordinary();
        onlyOnItsWay();
        withoutASeat();
        rights();
        wrongInputs();
        Check.end();
    }

    private static void ordinary() {
        Check x = new Check("handOut", 2);
        x.due(0, "come", 8);
        x.due(1, "come", 9);
        x.due(0, "ask", 9, 3, 1);
        x.due(1, "ask", 8, 3, 2);
        x.due(0, "fetch", 3, 3);
        x.due(9, "handOut", 3, 4);
        x.unitIs(3, 2, 0, 0, 0, 1);
        x.personIs(9, 1, -1, 1, 1, 0);
        x.personIs(8, 0, -1, 1, 0, 0);
        x.requestIs(0, 9, 3, 2, 1, 4, -1);
        x.due(-2, "handOut", 3, 3);
    }

    private static void onlyOnItsWay() {
        Check x = new Check("place", 1);
        x.due(0, "come", 0);
        x.due(-3, "handOut", 3, 0);
        x.due(0, "ask", 0, 3, 0);
        x.due(-3, "handOut", 3, 0);
        x.due(0, "fetch", 3, 0);
        x.due(0, "handOut", 3, 0);
        x.due(-3, "handOut", 3, 0);
        x.due(0, "back", 3, 0);
        x.due(-3, "handOut", 3, 0);
    }

    private static void withoutASeat() {
        Check x = new Check("seat", 1);
        x.due(0, "come", 0);
        x.due(0, "ask", 0, 3, 0);
        x.due(0, "fetch", 3, 0);
        x.due(100, "leave", 0);
        x.due(-3, "handOut", 3, 0);
        x.due(0, "come", 1);
        x.due(-10, "come", 0);
        x.due(0, "restrict", 3, 1);
        x.due(-3, "handOut", 3, 0);
        x.due(0, "leave", 1);
        x.due(-5, "handOut", 3, 0);
        x.due(1, "right", 0, 1);
        x.due(0, "handOut", 3, 0);
    }

    private static void rights() {
        Check x = new Check("right", 1);
        x.due(0, "come", 0);
        x.due(1, "right", 0, 3);
        x.due(0, "restrict", 3, 2);
        x.due(0, "ask", 0, 3, 0);
        x.due(0, "fetch", 3, 0);
        x.due(1, "right", 0, 1);
        x.due(-5, "handOut", 3, 0);
        x.unitIs(3, 1, 0, 2, 0, 0);
        x.requestIs(0, 0, 3, 1, 0, -1, -1);
        x.due(1, "right", 0, 2);
        x.due(0, "handOut", 3, 0);
    }

    private static void wrongInputs() {
        Check x = new Check("wrong", 1);
        x.due(0, "come", 0);
        x.due(0, "ask", 0, 0, 50);
        x.due(0, "fetch", 0, 50);
        for (int unit : new int[] {-1, 80, Integer.MIN_VALUE, Integer.MAX_VALUE}) {
            x.due(-1, "handOut", unit, 50);
            x.due(-1, "handOut", unit, -1);
        }
        for (int t : new int[] {-1, 49, 1000000001, Integer.MIN_VALUE, Integer.MAX_VALUE}) {
            x.due(-2, "handOut", 0, t);
            x.due(-2, "handOut", 1, t);
        }
        x.due(0, "handOut", 0, 1000000000);
        x.due(1000000000, "request", 0, 4);
    }
}
