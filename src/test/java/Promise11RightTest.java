/** Promise 11: a person's right. */
public final class Promise11RightTest {
    public static void main(String[] args) {
        ordinary();
        loweringTakesNothingAway();
        wrongInputs();
        Check.end();
    }

    private static void ordinary() {
        for (int right = 0; right <= 3; right++) {
            Check x = new Check("right", 2);
            x.due(0, "come", 0);
            x.due(1, "come", 59);
            x.due(1, "right", 59, right);
            for (int restriction = 0; restriction <= 3; restriction++) {
                x.due(0, "restrict", restriction, restriction);
                x.due(1, "limit", 59, 9, 0);
                x.due(restriction <= right ? restriction : -5, "ask", 59, restriction, 1);
            }
            x.due(-5, "ask", 0, 1, 1);
        }
    }

    private static void loweringTakesNothingAway() {
        Check x = new Check("lowered", 1);
        x.due(0, "come", 0);
        x.due(1, "right", 0, 3);
        x.due(0, "restrict", 5, 3);
        x.due(0, "ask", 0, 5, 1);
        x.due(1, "right", 0, 0);
        x.requestIs(0, 0, 5, 0, 1, -1, -1);
        x.due(0, "fetch", 5, 1);
        x.due(-5, "handOut", 5, 1);
    }

    private static void wrongInputs() {
        Check x = new Check("wrong", 1);
        for (int person : new int[] {-1, 60, Integer.MIN_VALUE, Integer.MAX_VALUE}) {
            x.due(-1, "right", person, 0);
            x.due(-1, "right", person, 4);
        }
        x.due(1, "right", 0, 2);
        for (int right : new int[] {-1, 4, Integer.MIN_VALUE, Integer.MAX_VALUE}) {
            x.due(-2, "right", 0, right);
        }
        x.due(0, "come", 0);
        x.due(0, "restrict", 0, 2);
        x.due(0, "restrict", 1, 3);
        x.due(0, "ask", 0, 0, 0);
        x.due(-5, "ask", 0, 1, 0);
    }
}
