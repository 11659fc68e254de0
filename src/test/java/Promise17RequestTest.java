/** Promise 17: what is told of a request. */
public final class Promise17RequestTest {
    public static void main(String[] args) {
        ordinary();
        closed();
        wrongInputs();
        Check.end();
    }

    private static void ordinary() {
        Check x = new Check("request", 2);
        x.due(0, "come", 7);
        x.due(1, "come", 8);
        x.due(0, "ask", 8, 30, 0);
        x.due(1, "ask", 7, 31, 10);
        x.due(2, "ask", 7, 30, 11);
        x.requestIs(0, 8, 30, 0, 0, -1, -1);
        x.requestIs(1, 7, 31, 0, 10, -1, -1);
        x.due(1, "fetch", 31, 12);
        x.requestIs(1, 7, 31, 1, 10, -1, -1);
        x.due(7, "handOut", 31, 13);
        x.requestIs(1, 7, 31, 2, 10, 13, -1);
        x.due(1, "back", 31, 14);
        x.requestIs(1, 7, 31, 3, 10, 13, 14);
        x.due(2, "restrict", 30, 1);
        x.requestIs(0, 8, 30, 4, 0, -1, -1);
        x.requestIs(2, 7, 30, 4, 11, -1, -1);
        x.due(1, "close", 20);
        x.requestIs(1, 7, 31, 3, 10, 13, 14);
    }

    private static void closed() {
        Check x = new Check("closed", 1);
        x.due(0, "come", 0);
        x.due(0, "ask", 0, 0, 1);
        x.due(1, "ask", 0, 1, 1);
        x.due(1, "fetch", 1, 2);
        x.due(2, "ask", 0, 2, 3);
        x.due(2, "fetch", 2, 4);
        x.due(0, "handOut", 2, 5);
        x.due(2, "close", 6);
        x.requestIs(0, 0, 0, 4, 1, -1, -1);
        x.requestIs(1, 0, 1, 3, 1, -1, -1);
        x.requestIs(2, 0, 2, 3, 3, 5, 6);
        x.due(0, "close", 7);
        x.requestIs(2, 0, 2, 3, 3, 5, 6);
    }

    private static void wrongInputs() {
        Check x = new Check("wrong", 1);
        x.missing("request", 0, 0);
        x.missing("request", -1, 0);
        x.due(0, "come", 0);
        x.due(0, "ask", 0, 0, 0);
        for (int wrong : new int[] {-1, 300, Integer.MIN_VALUE, Integer.MAX_VALUE}) {
            x.missing("request", wrong, 0);
            x.missing("request", 0, wrong);
        }
        x.missing("request", 1, 0);
        x.missing("request", 299, 2);
        x.missing("request", 0, 6);
        x.due(0, "request", 0, 0);
    }
}
