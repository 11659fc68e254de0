/** Promise 4: a request, and why there is none. */
public final class Promise04AskTest {
    public static void main(String[] args) {
        ordinary();
        limits();
        threeHundred();
        rights();
        orderOfReasons();
        wrongInputs();
        Check.end();
    }

    private static void ordinary() {
        Check x = new Check("ask", 2);
        x.due(0, "come", 0);
        x.due(1, "come", 1);
        x.due(-10, "come", 2);
        x.due(0, "ask", 0, 79, 0);
        x.due(1, "ask", 1, 79, 4);
        x.due(2, "ask", 1, 0, 4);
        x.requestIs(0, 0, 79, 0, 0, -1, -1);
        x.requestIs(1, 1, 79, 0, 4, -1, -1);
        x.requestIs(2, 1, 0, 0, 4, -1, -1);
        x.due(-3, "ask", 2, 5, 5);
        x.due(-3, "ask", 3, 5, 5);
        x.due(-3, "ask", 0, 79, 5);
        x.due(0, "fetch", 79, 5);
        x.due(-3, "ask", 0, 79, 5);
        x.due(0, "handOut", 79, 5);
        x.due(-3, "ask", 0, 79, 5);
        x.due(0, "back", 79, 5);
        x.due(3, "ask", 0, 79, 5);
        x.due(2, "unit", 79, 4);
    }

    private static void limits() {
        Check x = new Check("limit", 1);
        x.due(0, "come", 0);
        x.due(0, "ask", 0, 0, 0);
        x.due(1, "ask", 0, 1, 0);
        x.due(2, "ask", 0, 2, 0);
        x.due(-4, "ask", 0, 3, 0);
        x.due(1, "restrict", 1, 1);
        x.due(3, "ask", 0, 3, 0);
        x.due(-4, "ask", 0, 4, 0);
        x.due(0, "fetch", 0, 0);
        x.due(-4, "ask", 0, 4, 0);
        x.due(0, "handOut", 0, 0);
        x.due(-4, "ask", 0, 4, 0);
        x.due(0, "back", 0, 0);
        x.due(4, "ask", 0, 4, 0);
        x.due(1, "limit", 0, 2, 20);
        x.due(-4, "ask", 0, 5, 0);
        x.due(1, "limit", 0, 0, 20);
        x.due(1, "close", 0);
        x.due(0, "come", 0);
        x.due(-4, "ask", 0, 5, 0);
    }

    private static void threeHundred() {
        Check x = new Check("300", 20);
        int number = 0;
        for (int person = 0; person < 20; person++) {
            x.due(1, "limit", person, 9, 0);
        }
        for (int t = 0; number < 300; t++) {
            for (int person = 0; person < 20; person++) {
                x.due(person, "come", person);
                for (int unit = 0; unit < 9 && number < 300; unit++) {
                    x.due(number, "ask", person, unit, t);
                    number++;
                }
            }
            if (number == 300) {
                x.requestIs(299, 13, 2, 0, t, -1, -1);
                x.personIs(13, 13, -1, 3, 0, 0);
                x.unitIs(2, 0, 0, 0, -1, 14);
                x.due(299, "waits", 2, 13);
                x.missing("waits", 2, 14);
                x.due(100, "leave", 18);
                x.due(-4, "ask", 19, 70, t);
                x.due(-3, "ask", 50, 70, t);
                x.due(0, "close", t);
                x.due(0, "come", 0);
                x.due(-4, "ask", 0, 70, t);
                x.missing("request", 300, 0);
            } else {
                x.due(0, "close", t);
            }
        }
    }

    private static void rights() {
        Check x = new Check("right", 1);
        x.due(0, "come", 0);
        for (int restriction = 1; restriction <= 3; restriction++) {
            x.due(0, "restrict", restriction, restriction);
            x.due(1, "right", 0, restriction - 1);
            x.due(-5, "ask", 0, restriction, 0);
            x.due(1, "right", 0, restriction);
            x.due(restriction - 1, "ask", 0, restriction, 0);
        }
    }

    private static void orderOfReasons() {
        Check x = new Check("order", 1);
        x.due(0, "close", 100);
        x.due(-1, "ask", 60, 0, 99);
        x.due(-1, "ask", 0, 80, 99);
        x.due(-2, "ask", 0, 0, 99);
        x.due(0, "restrict", 0, 1);
        x.due(1, "limit", 0, 0, 0);
        x.due(-3, "ask", 0, 0, 100);
        x.due(0, "come", 0);
        x.due(-5, "ask", 0, 0, 100);
        x.due(1, "right", 0, 1);
        x.due(-4, "ask", 0, 0, 100);
        x.due(1, "limit", 0, 1, 0);
        x.due(0, "ask", 0, 0, 100);
        x.due(1, "right", 0, 0);
        x.due(-3, "ask", 0, 0, 100);
        x.due(0, "restrict", 1, 1);
        x.due(-5, "ask", 0, 1, 100);
        x.due(-4, "ask", 0, 2, 100);
    }

    private static void wrongInputs() {
        Check x = new Check("wrong", 1);
        x.due(0, "come", 0);
        for (int wrong : new int[] {-1, 80, Integer.MIN_VALUE, Integer.MAX_VALUE}) {
            x.due(-1, "ask", wrong, 0, 0);
            x.due(-1, "ask", 0, wrong, 0);
        }
        x.due(-1, "ask", 60, 0, 0);
        for (int t : new int[] {-1, 1000000001, Integer.MIN_VALUE, Integer.MAX_VALUE}) {
            x.due(-2, "ask", 0, 0, t);
        }
        x.missing("request", 0, 0);
        x.due(0, "ask", 0, 0, 1000000000);
        x.due(-2, "ask", 0, 1, 999999999);
        x.due(1, "ask", 0, 1, 1000000000);
    }
}
