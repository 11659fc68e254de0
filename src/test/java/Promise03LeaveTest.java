/** Promise 3: who has the seat of a person that goes. */
public final class Promise03LeaveTest {
    public static void main(String[] args) {
        firstComeFirstServed();
        leavingTheRow();
        everybodyWaits();
        withAUnit();
        requestsStay();
        wrongInputs();
        Check.end();
    }

    private static void firstComeFirstServed() {
        Check x = new Check("row", 2);
        x.due(0, "come", 10);
        x.due(1, "come", 11);
        x.due(-10, "come", 14);
        x.due(-11, "come", 13);
        x.due(-12, "come", 12);
        x.due(14, "leave", 11);
        x.personIs(14, 1, -1);
        x.personIs(13, -1, 0);
        x.personIs(12, -1, 1);
        x.personIs(11, -1, -1);
        x.due(13, "leave", 10);
        x.due(12, "leave", 14);
        x.personIs(12, 1, -1);
        x.due(100, "leave", 12);
        x.due(1, "come", 12);
        x.due(100, "leave", 13);
        x.due(0, "come", 14);
    }

    private static void leavingTheRow() {
        Check x = new Check("out of the row", 1);
        x.due(0, "come", 0);
        for (int person = 1; person < 5; person++) {
            x.due(-9 - person, "come", person);
        }
        x.due(100, "leave", 2);
        x.personIs(0, 0, -1);
        x.personIs(1, -1, 0);
        x.personIs(2, -1, -1);
        x.personIs(3, -1, 1);
        x.personIs(4, -1, 2);
        x.due(100, "leave", 4);
        x.due(-12, "come", 2);
        x.due(100, "leave", 1);
        x.due(3, "leave", 0);
        x.due(2, "leave", 3);
        x.due(100, "leave", 2);

        Check none = new Check("no seats", 0);
        none.due(-10, "come", 59);
        none.due(100, "leave", 59);
        none.due(-10, "come", 58);
    }

    private static void everybodyWaits() {
        Check x = new Check("everybody waits", 0);
        for (int person = 0; person < 60; person++) {
            x.due(-10 - person, "come", person);
        }
        x.due(100, "leave", 0);
        x.personIs(1, -1, 0);
        x.personIs(59, -1, 58);
        x.due(-69, "come", 0);
        x.due(100, "leave", 0);
        x.due(100, "leave", 59);
        x.due(-68, "come", 59);
    }

    private static void withAUnit() {
        Check x = new Check("with a unit", 2);
        x.due(0, "come", 0);
        x.due(1, "come", 1);
        x.borrow(0, 9, 5, 0);
        x.due(-3, "leave", 0);
        x.personIs(0, 0, -1, 1, 1, 0);
        x.due(100, "leave", 1);
        x.due(0, "back", 9, 6);
        x.due(100, "leave", 0);
    }

    private static void requestsStay() {
        Check x = new Check("requests stay", 1);
        x.due(0, "come", 0);
        x.due(0, "ask", 0, 5, 1);
        x.due(1, "ask", 0, 6, 1);
        x.due(1, "fetch", 6, 1);
        x.due(100, "leave", 0);
        x.personIs(0, -1, -1, 2, 0, 0);
        x.requestIs(0, 0, 5, 0, 1, -1, -1);
        x.requestIs(1, 0, 6, 1, 1, -1, -1);
        x.due(0, "fetch", 5, 1);
    }

    private static void wrongInputs() {
        Check x = new Check("nobody", 1);
        for (int person : new int[] {-1, 60, Integer.MIN_VALUE, Integer.MAX_VALUE}) {
            x.due(-1, "leave", person);
        }
        x.due(-3, "leave", 0);
        x.due(0, "come", 0);
        x.due(-10, "come", 1);
        x.due(-3, "leave", 2);
        x.due(1, "leave", 0);
        x.due(-3, "leave", 0);
    }
}
