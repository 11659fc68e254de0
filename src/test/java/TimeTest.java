/** Times never go back; a call that is refused leaves the time as it was ("nothing happens then"). */
public final class TimeTest {
    public static void main(String[] args) {
        everyCallMovesTheTime();
        refusedCallsDoNot();
        Check.end();
    }

    private static void everyCallMovesTheTime() {
        Check x = new Check("time", 1);
        x.due(0, "come", 0);
        x.due(0, "ask", 0, 0, 10);
        x.due(-2, "close", 9);
        x.due(0, "fetch", 0, 20);
        x.due(-2, "close", 19);
        x.due(0, "handOut", 0, 30);
        x.due(-2, "close", 29);
        x.due(19, "copy", 0, 1, 40);
        x.due(-2, "close", 39);
        x.due(0, "back", 0, 50);
        x.due(-2, "close", 49);
        x.due(1, "close", 60);
        x.due(-2, "close", 59);
        x.due(0, "close", 60);
    }

    private static void refusedCallsDoNot() {
        Check x = new Check("refused", 1);
        x.due(-3, "ask", 0, 0, 100);
        x.due(-1, "ask", 60, 0, 100);
        x.due(0, "come", 0);
        x.due(0, "restrict", 1, 1);
        x.due(-5, "ask", 0, 1, 100);
        x.due(0, "restrict", 1, 0);
        x.due(1, "limit", 0, 0, 20);
        x.due(-4, "ask", 0, 0, 100);
        x.due(1, "limit", 0, 3, 20);
        x.due(-2, "ask", 0, 0, 1000000001);
        x.due(-3, "fetch", 0, 100);
        x.due(-3, "handOut", 0, 100);
        x.due(-3, "back", 0, 100);
        x.due(-3, "copy", 0, 1, 100);
        x.due(0, "ask", 0, 0, 1);
        x.due(0, "fetch", 0, 2);
        x.due(0, "restrict", 0, 1);
        x.due(-5, "handOut", 0, 100);
        x.due(1, "right", 0, 1);
        x.due(0, "handOut", 0, 3);
        x.due(-4, "copy", 0, 21, 100);
        x.due(-2, "copy", 0, 0, 100);
        x.due(10, "copy", 0, 10, 4);
        x.due(0, "back", 0, 5);
        x.due(1, "close", 6);
    }
}
