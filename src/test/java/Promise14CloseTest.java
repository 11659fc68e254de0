/** Promise 14: closing. */
public final class Promise14CloseTest {
    public static void main(String[] args) {
        allGoesBack();
        whatStays();
        onATimeOnly();
        Check.end();
    }

    private static void allGoesBack() {
        Check x = new Check("close", 2);
        x.due(0, "come", 0);
        x.due(1, "come", 1);
        x.due(-10, "come", 2);
        x.due(1, "limit", 0, 9, 20);
        x.borrowAndReturn(0, 0, 1, 0);
        x.due(1000, "look", 0, 1);
        x.borrowAndReturn(0, 1, 2, 1);
        x.borrow(0, 2, 3, 2);
        x.due(3, "ask", 1, 3, 4);
        x.due(3, "fetch", 3, 4);
        x.due(4, "ask", 1, 4, 4);
        x.due(5, "ask", 0, 3, 4);
        x.due(6, "ask", 0, 5, 4);
        x.due(1, "restrict", 5, 1);
        x.due(3, "close", 9);
        x.requestIs(0, 0, 0, 3, 1, 1, 1);
        x.requestIs(1, 0, 1, 3, 2, 2, 2);
        x.requestIs(2, 0, 2, 3, 3, 3, 9);
        x.requestIs(3, 1, 3, 3, 4, -1, -1);
        x.requestIs(4, 1, 4, 4, 4, -1, -1);
        x.requestIs(5, 0, 3, 4, 4, -1, -1);
        x.requestIs(6, 0, 5, 4, 4, -1, -1);
        x.unitIs(0, 0, 1, 0, -1, 0);
        for (int unit = 1; unit <= 4; unit++) {
            x.unitIs(unit, 0, 0, 0, -1, 0);
        }
        x.unitIs(5, 0, 0, 1, -1, 0);
        for (int person = 0; person < 3; person++) {
            x.personIs(person, -1, -1, 0, 0, 0);
        }
        x.due(-3, "leave", 0);
        x.due(-3, "leave", 2);
        x.due(0, "close", 9);
        x.due(0, "come", 2);
        x.due(1, "come", 1);
        x.due(-10, "come", 0);
        x.due(9, "request", 2, 5);
        x.due(7, "ask", 2, 4, 9);
    }

    private static void whatStays() {
        Check x = new Check("what stays", 1);
        x.due(1, "limit", 0, 1, 4);
        x.due(1, "right", 0, 2);
        x.due(0, "restrict", 0, 2);
        x.due(0, "restrict", 1, 3);
        x.due(0, "come", 0);
        x.borrowAndReturn(0, 0, 0, 0);
        x.due(1000, "look", 0, 1);
        x.due(0, "close", 0);
        x.unitIs(0, 0, 1, 2, -1, 0);
        x.due(0, "come", 0);
        x.due(-5, "ask", 0, 1, 0);
        x.borrow(0, 0, 0, 1);
        x.due(-4, "ask", 0, 2, 0);
        x.due(-4, "copy", 0, 5, 0);
        x.due(0, "copy", 0, 4, 0);
    }

    private static void onATimeOnly() {
        Check x = new Check("time", 1);
        x.due(0, "come", 0);
        x.due(0, "ask", 0, 0, 10);
        for (int t : new int[] {-1, 9, 1000000001, Integer.MIN_VALUE, Integer.MAX_VALUE}) {
            x.due(-2, "close", t);
        }
        x.requestIs(0, 0, 0, 0, 10, -1, -1);
        x.personIs(0, 0, -1, 1);
        x.due(0, "close", 10);
        x.due(0, "close", 1000000000);
        x.due(-2, "close", 999999999);
        x.due(0, "close", 1000000000);
    }
}
