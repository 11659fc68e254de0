/** Promise 18: waits. */
public final class Promise18WaitsTest {
    public static void main(String[] args) {
        byNumbersFrom0On();
        openOnly();
        everySeatWaits();
        noneSuchUnit();
        noneSuchPlace();
        Check.end();
    }

    private static void byNumbersFrom0On() {
        Check x = new Check("The i-th OPEN request of a unit, by numbers, from 0 on", 4);
        x.seat(0, 1, 2, 3);
        waiting(x, 0);
        waiting(x, 79);
        x.due(0, "ask", 3, 79, 0);
        x.due(1, "ask", 2, 0, 0);
        x.due(2, "ask", 1, 79, 0);
        x.due(3, "ask", 0, 79, 0);
        x.due(4, "ask", 2, 79, 0);
        waiting(x, 79, 0, 2, 3, 4);
        waiting(x, 0, 1);
    }

    private static void openOnly() {
        Check x = new Check("The i-th OPEN request", 4);
        x.seat(0, 1, 2, 3);
        for (int person = 0; person < 4; person++) {
            x.due(person, "ask", person, 79, 0);
        }
        x.due(0, "fetch", 79, 0);
        waiting(x, 79, 1, 2, 3);
        x.due(0, "handOut", 79, 0);
        waiting(x, 79, 1, 2, 3);
        x.due(0, "back", 79, 0);
        waiting(x, 79, 1, 2, 3);
        x.due(1, "right", 1, 1);
        x.due(1, "right", 3, 1);
        x.due(1, "restrict", 79, 1);
        waiting(x, 79, 1, 3);
        x.due(0, "restrict", 79, 0);
        x.due(4, "ask", 0, 79, 0);
        waiting(x, 79, 1, 3, 4);
        x.due(1, "look", 79, 1);
        waiting(x, 79, 3, 4);
        x.due(1, "close", 0);
        waiting(x, 79);
    }

    private static void everySeatWaits() {
        Check x = new Check("The i-th OPEN request", 20);
        for (int person = 0; person < 20; person++) {
            x.due(person, "come", person);
            x.due(person, "ask", person, 5, 1);
        }
        for (int i = 0; i < 20; i++) {
            x.due(i, "waits", 5, i);
        }
        x.missing("waits", 5, 20);
    }

    private static void noneSuchUnit() {
        Check x = new Check("waits: NoSuchElementException if there is none such", 1);
        x.seat(0);
        x.due(0, "ask", 0, 0, 0);
        x.due(1, "ask", 0, 79, 0);
        for (int unit : Check.noUnits()) {
            x.missing("waits", unit, 0);
            x.missing("waits", unit, -1);
        }
        x.due(0, "waits", 0, 0);
        x.due(1, "waits", 79, 0);
    }

    private static void noneSuchPlace() {
        Check x = new Check("waits: NoSuchElementException if there is none such", 1);
        x.seat(0);
        x.due(0, "ask", 0, 0, 0);
        for (int i : new int[] {-1, 1, 2, 300, Integer.MIN_VALUE, Integer.MAX_VALUE}) {
            x.missing("waits", 0, i);
        }
        x.missing("waits", 1, 0);
        x.due(0, "waits", 0, 0);
    }

    private static void waiting(Check x, int unit, int... numbers) {
        x.missing("waits", unit, -1);
        for (int i = 0; i < numbers.length; i++) {
            x.due(numbers[i], "waits", unit, i);
        }
        x.missing("waits", unit, numbers.length);
        x.due(numbers.length, "unit", unit, 4);
    }
}
