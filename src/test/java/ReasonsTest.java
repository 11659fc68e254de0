/** The terms: "Several reasons: the first in the order told counts; nothing happens then." */
public final class ReasonsTest {
    private static final String TITLE = "Several reasons: the first in the order told counts";

    public static void main(String[] args) {
        askOfSomebodyAbsent();
        askAgain();
        askWhenThereAre300();
        fetch();
        handOut();
        back();
        look();
        restrictRightAndLimit();
        copy();
        tellingCalls();
        Check.end();
    }

    private static void askOfSomebodyAbsent() {
        Check x = new Check(TITLE, 1);
        x.due(0, "close", 100);
        x.due(0, "restrict", 0, 1);
        x.due(1, "limit", 0, 0, 0);
        x.none("ask", 60, 80, 99);
        x.none("ask", 60, 0, 99);
        x.none("ask", 0, 80, 99);
        x.none("ask", 0, 80, 100);
        x.range("ask", 0, 0, 99);
        x.state("ask", 0, 0, 100);
        x.seat(0);
        x.range("ask", 0, 0, 99);
        x.right("ask", 0, 0, 100);
        x.due(1, "right", 0, 1);
        x.range("ask", 0, 0, 99);
        x.full("ask", 0, 0, 100);
        x.due(1, "limit", 0, 1, 0);
        x.range("ask", 0, 0, 99);
        x.due(0, "ask", 0, 0, 100);
    }

    private static void askAgain() {
        Check x = new Check(TITLE, 1);
        x.seat(0);
        x.due(1, "right", 0, 1);
        x.due(0, "restrict", 0, 1);
        x.due(0, "restrict", 1, 1);
        x.due(1, "limit", 0, 1, 0);
        x.due(0, "ask", 0, 0, 100);
        x.due(1, "right", 0, 0);
        x.range("ask", 0, 0, 99);
        x.state("ask", 0, 0, 100);
        x.right("ask", 0, 1, 100);
        x.full("ask", 0, 2, 100);
        x.due(1, "right", 0, 1);
        x.state("ask", 0, 0, 100);
        x.full("ask", 0, 1, 100);
    }

    private static void askWhenThereAre300() {
        Check x = new Check(TITLE, 20);
        int number = 0;
        for (int t = 0; number < 300; t++) {
            for (int person = 0; person < 20 && number < 300; person++) {
                if (t == 0) {
                    x.due(1, "limit", person, 9, 0);
                }
                x.due(person, "come", person);
                for (int unit = 0; unit < 9 && number < 300; unit++) {
                    x.due(number++, "ask", person, unit, t);
                }
            }
            x.due(0, "close", t);
        }
        x.seat(0);
        x.due(0, "restrict", 5, 1);
        x.none("ask", 0, 80, 1);
        x.range("ask", 0, 0, 0);
        x.state("ask", 1, 0, 1);
        x.right("ask", 0, 5, 1);
        x.full("ask", 0, 0, 1);
    }

    private static void fetch() {
        Check x = new Check(TITLE, 1);
        x.due(0, "close", 100);
        x.none("fetch", 80, 99);
        x.none("fetch", -1, 100);
        x.range("fetch", 0, 99);
        x.state("fetch", 0, 100);
        x.seat(0);
        x.due(0, "ask", 0, 0, 100);
        x.range("fetch", 0, 99);
        x.due(0, "fetch", 0, 100);
        x.range("fetch", 0, 99);
        x.state("fetch", 0, 100);
    }

    private static void handOut() {
        Check x = new Check(TITLE, 1);
        x.due(0, "close", 100);
        x.none("handOut", 80, 99);
        x.range("handOut", 0, 99);
        x.state("handOut", 0, 100);
        x.seat(0);
        x.due(0, "ask", 0, 0, 100);
        x.due(0, "fetch", 0, 100);
        x.due(0, "restrict", 0, 1);
        x.due(100, "leave", 0);
        x.range("handOut", 0, 99);
        x.state("handOut", 0, 100);
        x.seat(0);
        x.range("handOut", 0, 99);
        x.right("handOut", 0, 100);
        x.due(1, "right", 0, 1);
        x.range("handOut", 0, 99);
        x.due(0, "handOut", 0, 100);
        x.due(1, "right", 0, 0);
        x.state("handOut", 0, 100);
    }

    private static void back() {
        Check x = new Check(TITLE, 1);
        x.due(0, "close", 100);
        x.none("back", 80, 99);
        x.range("back", 0, 99);
        x.state("back", 0, 100);
        x.seat(0);
        x.borrow(0, 0, 100, 0);
        x.range("back", 0, 99);
        x.due(0, "back", 0, 100);
    }

    private static void look() {
        Check x = new Check(TITLE, 1);
        x.none("look", 80, 4);
        x.none("look", 80, -1);
        x.range("look", 0, 4);
        x.range("look", 0, -1);
        x.state("look", 0, 3);
        x.seat(0);
        x.wear(0, 0, 0, 0, 2);
        x.range("look", 0, 1);
        x.state("look", 0, 2);
        x.borrow(0, 0, 0, 1);
        x.range("look", 0, 1);
        x.state("look", 0, 2);
        x.due(1, "back", 0, 0);
        x.range("look", 0, 1);
        x.due(1000, "look", 0, 2);
    }

    private static void restrictRightAndLimit() {
        Check x = new Check(TITLE, 1);
        x.none("restrict", 80, 4);
        x.none("restrict", -1, -1);
        x.range("restrict", 0, 4);
        x.none("right", 60, 4);
        x.none("right", -1, -1);
        x.range("right", 0, 4);
        x.none("limit", 60, 10, 501);
        x.none("limit", -1, -1, -1);
        x.range("limit", 0, 10, 501);
    }

    private static void copy() {
        Check x = new Check(TITLE, 1);
        x.due(0, "close", 100);
        x.due(1, "limit", 0, 3, 0);
        x.none("copy", 80, 0, 99);
        x.none("copy", 80, 1, 99);
        x.none("copy", 80, 0, 100);
        x.range("copy", 0, 0, 99);
        x.range("copy", 0, 0, 100);
        x.range("copy", 0, 1, 99);
        x.state("copy", 0, 1, 100);
        x.seat(0);
        x.borrow(0, 0, 100, 0);
        x.range("copy", 0, 501, 100);
        x.range("copy", 0, 1, 99);
        x.full("copy", 0, 1, 100);
        x.full("copy", 0, 500, 100);
        x.due(0, "back", 0, 100);
        x.due(1000, "look", 0, 2);
        x.borrow(0, 0, 100, 1);
        x.range("copy", 0, 501, 100);
        x.range("copy", 0, 1, 99);
        x.state("copy", 0, 1, 100);
    }

    private static void tellingCalls() {
        Check x = new Check(TITLE, 1);
        x.none("unit", 80, 5);
        x.none("person", 60, 5);
        x.missing("request", 300, 6);
        x.missing("waits", 80, -1);
    }
}
