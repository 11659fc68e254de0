/** Promise 10: a unit's restriction, and the open requests that are gone by it. */
public final class Promise10RestrictTest {
    public static void main(String[] args) {
        lowRightsAreGone();
        onlyOpenRequestsOfTheUnit();
        wrongInputs();
        Check.end();
    }

    private static void lowRightsAreGone() {
        for (int restriction = 0; restriction <= 3; restriction++) {
            Check x = new Check("gone", 4);
            for (int person = 0; person < 4; person++) {
                x.due(person, "come", person);
                x.due(1, "right", person, person);
                x.due(person, "ask", person, 20, 1);
            }
            x.due(restriction, "restrict", 20, restriction);
            x.unitIs(20, 0, 0, restriction, -1, 4 - restriction);
            for (int person = 0; person < 4; person++) {
                boolean gone = person < restriction;
                x.requestIs(person, person, 20, gone ? 4 : 0, 1, -1, -1);
                x.due(gone ? 0 : 1, "person", person, 2);
            }
            x.due(0, "restrict", 20, restriction);
            x.due(restriction < 3 ? restriction : 3, "fetch", 20, 1);
            x.due(0, "restrict", 20, 0);
            x.due(0, "unit", 20, 2);
            x.due(restriction == 0 ? -3 : 4, "ask", 0, 20, 1);
        }
    }

    private static void onlyOpenRequestsOfTheUnit() {
        Check x = new Check("only open", 4);
        for (int person = 0; person < 4; person++) {
            x.due(person, "come", person);
        }
        x.due(0, "ask", 3, 21, 1);
        x.borrowAndReturn(0, 20, 1, 1);
        x.due(1000, "look", 20, 0);
        x.borrow(1, 20, 1, 2);
        x.due(3, "ask", 2, 20, 1);
        x.due(4, "ask", 3, 20, 1);
        x.due(2, "restrict", 20, 1);
        x.requestIs(0, 3, 21, 0, 1, -1, -1);
        x.requestIs(1, 0, 20, 3, 1, 1, 1);
        x.requestIs(2, 1, 20, 2, 1, 1, -1);
        x.requestIs(3, 2, 20, 4, 1, -1, -1);
        x.requestIs(4, 3, 20, 4, 1, -1, -1);
        x.due(2, "back", 20, 1);
        x.due(1000, "look", 20, 0);
        x.due(0, "fetch", 21, 1);
        x.due(0, "restrict", 21, 3);
        x.requestIs(0, 3, 21, 1, 1, -1, -1);
        x.due(0, "restrict", 20, 0);
        x.due(4, "request", 3, 2);
    }

    private static void wrongInputs() {
        Check x = new Check("wrong", 1);
        x.due(0, "come", 0);
        x.due(0, "ask", 0, 79, 1);
        for (int unit : new int[] {-1, 80, Integer.MIN_VALUE, Integer.MAX_VALUE}) {
            x.due(-1, "restrict", unit, 0);
            x.due(-1, "restrict", unit, 4);
        }
        for (int restriction : new int[] {-1, 4, Integer.MIN_VALUE, Integer.MAX_VALUE}) {
            x.due(-2, "restrict", 79, restriction);
        }
        x.unitIs(79, 0, 0, 0, -1, 1);
        x.due(1, "restrict", 79, 3);
    }
}
