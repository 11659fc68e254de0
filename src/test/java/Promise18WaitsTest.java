/** Promise 18: the open requests of a unit, by numbers. */
public final class Promise18WaitsTest {
    public static void main(String[] args) {
        ordinary();
        wrongInputs();
        Check.end();
    }

    private static void ordinary() {
        Check x = new Check("waits", 4);
        for (int person = 0; person < 4; person++) {
            x.due(person, "come", person);
        }
        x.missing("waits", 79, 0);
        x.due(0, "ask", 3, 79, 0);
        x.due(1, "ask", 2, 78, 0);
        x.due(2, "ask", 1, 79, 0);
        x.due(3, "ask", 0, 79, 0);
        x.due(4, "ask", 2, 79, 0);
        waiting(x, 79, 0, 2, 3, 4);
        waiting(x, 78, 1);
        x.due(0, "fetch", 79, 0);
        waiting(x, 79, 2, 3, 4);
        x.due(1, "right", 1, 1);
        x.due(1, "right", 2, 1);
        x.due(1, "restrict", 79, 1);
        waiting(x, 79, 2, 4);
        x.due(0, "restrict", 79, 0);
        waiting(x, 79, 2, 4);
        x.due(5, "ask", 0, 79, 0);
        waiting(x, 79, 2, 4, 5);
        x.due(1, "close", 0);
        waiting(x, 79);
        waiting(x, 78);
    }

    private static void waiting(Check x, int unit, int... numbers) {
        x.missing("waits", unit, -1);
        for (int i = 0; i < numbers.length; i++) {
            x.due(numbers[i], "waits", unit, i);
        }
        x.missing("waits", unit, numbers.length);
        x.due(numbers.length, "unit", unit, 4);
    }

    private static void wrongInputs() {
        Check x = new Check("wrong", 1);
        x.due(0, "come", 0);
        x.due(0, "ask", 0, 0, 0);
        for (int wrong : new int[] {-1, 80, Integer.MIN_VALUE, Integer.MAX_VALUE}) {
            x.missing("waits", wrong, 0);
            x.missing("waits", 0, wrong);
        }
        x.due(0, "waits", 0, 0);
    }
}
