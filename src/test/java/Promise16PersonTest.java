/** Promise 16: what is told of a person. */
public final class Promise16PersonTest {
    public static void main(String[] args) {
        ordinary();
        wrongInputs();
        Check.end();
    }

    private static void ordinary() {
        Check x = new Check("person", 2);
        x.personIs(59, -1, -1, 0, 0, 0);
        x.due(0, "come", 0);
        x.due(1, "come", 59);
        x.due(-10, "come", 5);
        x.personIs(59, 1, -1, 0, 0, 0);
        x.personIs(5, -1, 0, 0, 0, 0);
        x.due(0, "ask", 59, 1, 1);
        x.due(1, "ask", 59, 2, 1);
        x.due(2, "ask", 59, 3, 1);
        x.personIs(59, 1, -1, 3, 0, 0);
        x.due(1, "fetch", 2, 1);
        x.personIs(59, 1, -1, 3, 0, 0);
        x.due(59, "handOut", 2, 1);
        x.personIs(59, 1, -1, 3, 1, 0);
        x.due(0, "fetch", 1, 1);
        x.due(59, "handOut", 1, 1);
        x.due(11, "copy", 1, 9, 1);
        x.personIs(59, 1, -1, 3, 2, 9);
        x.due(1, "back", 2, 1);
        x.personIs(59, 1, -1, 2, 1, 9);
        x.due(1, "restrict", 3, 1);
        x.personIs(59, 1, -1, 1, 1, 9);
        x.due(0, "back", 1, 200000);
        x.personIs(59, 1, -1, 0, 0, 9);
        x.personIs(0, 0, -1, 0, 0, 0);
        x.due(5, "leave", 59);
        x.personIs(59, -1, -1, 0, 0, 9);
        x.personIs(5, 1, -1, 0, 0, 0);
    }

    private static void wrongInputs() {
        Check x = new Check("wrong", 1);
        x.due(0, "come", 0);
        for (int wrong : new int[] {-1, 60, Integer.MIN_VALUE, Integer.MAX_VALUE}) {
            for (int what = 0; what < 5; what++) {
                x.due(-1, "person", wrong, what);
            }
            x.due(-1, "person", 0, wrong);
        }
        x.due(-1, "person", 0, 5);
    }
}
