/** Promise 2: the least free seat, or the place in the row. */
public final class Promise02ComeTest {
    public static void main(String[] args) {
        ordinary();
        leastFreeSeat();
        wrongInputs();
        Check.end();
    }

    private static void ordinary() {
        Check x = new Check("come", 2);
        x.due(0, "come", 59);
        x.due(1, "come", 0);
        x.due(-10, "come", 7);
        x.due(-11, "come", 8);
        x.due(-12, "come", 6);
        x.personIs(59, 0, -1, 0, 0, 0);
        x.personIs(8, -1, 1, 0, 0, 0);
        x.due(-3, "come", 59);
        x.due(-3, "come", 0);
        x.due(-3, "come", 7);
        x.due(-3, "come", 6);
        x.due(-13, "come", 9);
    }

    private static void leastFreeSeat() {
        Check x = new Check("least", 4);
        for (int person = 0; person < 4; person++) {
            x.due(person, "come", person);
        }
        x.due(100, "leave", 2);
        x.due(100, "leave", 1);
        x.due(1, "come", 2);
        x.due(2, "come", 5);
        x.due(-10, "come", 1);
    }

    private static void wrongInputs() {
        Check x = new Check("nobody", 3);
        for (int person : new int[] {-1, 60, 61, Integer.MIN_VALUE, Integer.MAX_VALUE}) {
            x.due(-1, "come", person);
        }
        x.due(0, "come", 0);
    }
}
