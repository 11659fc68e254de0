/** Promise 11: right. */
public final class Promise11RightTest {
    public static void main(String[] args) {
        zeroAtFirst();
        for (int right = 0; right <= 3; right++) {
            theRightIsSo(right);
        }
        loweringTakesNothingAway();
        ofOnePersonOnly();
        none();
        range();
        Check.end();
    }

    private static void zeroAtFirst() {
        Check x = new Check("persons' rights 0 .. 3, 0 at first", 1);
        x.due(0, "restrict", 1, 1);
        for (int person = 0; person < 60; person++) {
            x.seat(person);
            x.due(-5, "ask", person, 1, 0);
            x.due(person, "ask", person, 0, 0);
            x.due(100, "leave", person);
        }
    }

    private static void theRightIsSo(int right) {
        Check x = new Check("A person's right, 0 .. 3: 1", 1);
        x.seat(59);
        x.due(1, "limit", 59, 9, 0);
        x.due(1, "right", 59, 3 - right);
        x.due(1, "right", 59, right);
        for (int restriction = 0; restriction <= 3; restriction++) {
            x.due(0, "restrict", restriction, restriction);
            if (restriction <= right) {
                x.due(restriction, "ask", 59, restriction, 1);
            } else {
                x.right("ask", 59, restriction, 1);
            }
        }
    }

    private static void loweringTakesNothingAway() {
        Check x = new Check("nothing is said of the person's requests: they stay", 1);
        x.seat(0);
        x.due(1, "right", 0, 3);
        x.due(0, "restrict", 5, 3);
        x.due(0, "restrict", 6, 3);
        x.due(0, "ask", 0, 5, 1);
        x.borrow(0, 6, 1, 1);
        x.due(1, "right", 0, 0);
        x.requestIs(0, 0, 5, Check.OPEN, 1, -1, -1);
        x.requestIs(1, 0, 6, Check.HANDED_OUT, 1, 1, -1);
        x.due(19, "copy", 6, 1, 1);
        x.due(0, "fetch", 5, 1);
    }

    private static void ofOnePersonOnly() {
        Check x = new Check("A person's right", 3);
        x.seat(0, 1, 2);
        x.due(0, "restrict", 5, 1);
        x.due(1, "right", 1, 1);
        x.right("ask", 0, 5, 1);
        x.right("ask", 2, 5, 1);
        x.due(0, "ask", 1, 5, 1);
    }

    private static void none() {
        Check x = new Check("right: NONE", 2);
        for (int person : Check.noPersons()) {
            x.none("right", person, 1);
        }
        x.due(1, "right", 0, 1);
        x.due(1, "right", 59, 1);
        x.due(0, "restrict", 5, 1);
        x.seat(0, 59);
        x.due(0, "ask", 0, 5, 1);
        x.due(1, "ask", 59, 5, 1);
    }

    private static void range() {
        Check x = new Check("right: RANGE", 1);
        x.due(1, "right", 0, 2);
        for (int right : new int[] {-1, 4, Integer.MIN_VALUE, Integer.MAX_VALUE}) {
            x.range("right", 0, right);
        }
        x.seat(0);
        x.due(0, "restrict", 0, 2);
        x.due(0, "restrict", 1, 3);
        x.right("ask", 0, 1, 0);
        x.due(0, "ask", 0, 0, 0);
    }
}
