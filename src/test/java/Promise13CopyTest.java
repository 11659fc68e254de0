/** Promise 13: pages are copied for who has the unit. */
public final class Promise13CopyTest {
    public static void main(String[] args) {
        overAllUnitsOfADay();
        daysAreCut();
        limitChangesBetween();
        closingKeepsTheDay();
        nobodyHasIt();
        conditions();
        orderOfReasons();
        wrongInputs();
        Check.end();
    }

    private static void overAllUnitsOfADay() {
        Check x = new Check("copy", 2);
        x.due(0, "come", 0);
        x.due(1, "come", 1);
        x.borrow(0, 0, 1, 0);
        x.borrow(0, 1, 1, 1);
        x.borrow(1, 2, 1, 2);
        x.due(13, "copy", 0, 7, 1);
        x.due(5, "copy", 1, 8, 2);
        x.due(10, "copy", 2, 10, 2);
        x.due(-4, "copy", 1, 6, 3);
        x.due(15, "person", 0, 4);
        x.due(0, "copy", 0, 5, 3);
        x.due(-4, "copy", 0, 1, 3);
        x.due(20, "person", 0, 4);
        x.due(10, "person", 1, 4);
    }

    private static void daysAreCut() {
        Check x = new Check("days", 1);
        x.due(0, "come", 0);
        x.borrow(0, 0, 1, 0);
        x.due(10, "copy", 0, 10, 1);
        x.due(6, "copy", 0, 4, 86399);
        x.due(14, "person", 0, 4);
        x.due(-4, "copy", 0, 21, 86400);
        x.due(14, "person", 0, 4);
        x.due(17, "copy", 0, 3, 86400);
        x.due(3, "person", 0, 4);
        x.due(16, "copy", 0, 1, 172799);
        x.due(18, "copy", 0, 2, 172800);
        x.due(2, "person", 0, 4);
        x.due(0, "back", 0, 259200);
        x.due(2, "person", 0, 4);
        x.due(1000, "look", 0, 0);
        x.borrow(0, 0, 999993599, 1);
        x.due(19, "copy", 0, 1, 999993599);
        x.due(0, "copy", 0, 20, 999993600);
        x.due(-4, "copy", 0, 1, 1000000000);
    }

    private static void limitChangesBetween() {
        Check x = new Check("limit", 1);
        x.due(0, "come", 0);
        x.borrow(0, 0, 1, 0);
        x.due(10, "copy", 0, 10, 1);
        x.due(1, "limit", 0, 3, 5);
        x.due(-4, "copy", 0, 1, 1);
        x.due(1, "limit", 0, 3, 500);
        x.due(-4, "copy", 0, 491, 1);
        x.due(0, "copy", 0, 490, 1);
        x.due(500, "person", 0, 4);
        x.due(0, "copy", 0, 500, 86400);
    }

    private static void closingKeepsTheDay() {
        Check x = new Check("closing", 1);
        x.due(0, "come", 0);
        x.borrow(0, 0, 1, 0);
        x.due(2, "copy", 0, 18, 1);
        x.due(1, "close", 2);
        x.due(18, "person", 0, 4);
        x.due(0, "come", 0);
        x.borrow(0, 0, 3, 1);
        x.due(-4, "copy", 0, 3, 3);
        x.due(0, "copy", 0, 2, 3);
    }

    private static void nobodyHasIt() {
        Check x = new Check("nobody has it", 1);
        x.due(0, "come", 0);
        x.due(-3, "copy", 0, 1, 1);
        x.due(0, "ask", 0, 0, 1);
        x.due(-3, "copy", 0, 1, 1);
        x.due(0, "fetch", 0, 1);
        x.due(-3, "copy", 0, 1, 1);
        x.due(0, "handOut", 0, 1);
        x.due(0, "back", 0, 1);
        x.due(-3, "copy", 0, 1, 1);
        x.due(0, "person", 0, 4);
    }

    private static void conditions() {
        Check x = new Check("condition", 1);
        x.due(0, "come", 0);
        x.borrowAndReturn(0, 0, 1, 0);
        x.due(1000, "look", 0, 1);
        x.borrow(0, 0, 1, 1);
        x.due(19, "copy", 0, 1, 1);
        x.due(1, "back", 0, 1);
        x.due(1000, "look", 0, 2);
        x.borrow(0, 0, 1, 2);
        x.due(-3, "copy", 0, 1, 1);
        x.due(1, "person", 0, 4);
    }

    private static void orderOfReasons() {
        Check x = new Check("order", 1);
        x.due(0, "come", 0);
        x.due(1, "limit", 0, 3, 0);
        x.due(-1, "copy", 80, 0, -1);
        x.due(-2, "copy", 0, 0, 0);
        x.due(-2, "copy", 0, 1, -1);
        x.due(-3, "copy", 0, 1, 0);
        x.borrow(0, 0, 5, 0);
        x.due(-2, "copy", 0, 501, 5);
        x.due(-2, "copy", 0, 1, 4);
        x.due(-4, "copy", 0, 1, 5);
        x.due(-4, "copy", 0, 500, 5);
        x.due(0, "back", 0, 5);
        x.due(1000, "look", 0, 2);
        x.borrow(0, 0, 5, 1);
        x.due(-3, "copy", 0, 1, 5);
    }

    private static void wrongInputs() {
        Check x = new Check("wrong", 1);
        x.due(0, "come", 0);
        x.borrow(0, 0, 50, 0);
        for (int unit : new int[] {-1, 80, Integer.MIN_VALUE, Integer.MAX_VALUE}) {
            x.due(-1, "copy", unit, 1, 50);
        }
        for (int pages : new int[] {0, -1, 501, Integer.MIN_VALUE, Integer.MAX_VALUE}) {
            x.due(-2, "copy", 0, pages, 50);
        }
        for (int t : new int[] {-1, 49, 1000000001, Integer.MIN_VALUE, Integer.MAX_VALUE}) {
            x.due(-2, "copy", 0, 1, t);
        }
        x.due(19, "copy", 0, 1, 51);
        x.due(-2, "copy", 0, 1, 50);
    }
}
