/** Promise 12: a person's limits. */
public final class Promise12LimitTest {
    public static void main(String[] args) {
        for (int requests = 0; requests <= 9; requests++) {
            requestsAreLimited(requests);
        }
        for (int pages : new int[] {0, 1, 19, 21, 499, 500}) {
            pagesAreLimited(pages);
        }
        ofOnePersonOnly();
        wrongInputs();
        Check.end();
    }

    private static void requestsAreLimited(int requests) {
        Check x = new Check("requests", 1);
        x.due(0, "come", 59);
        x.due(1, "limit", 59, requests, 20);
        for (int unit = 0; unit < requests; unit++) {
            x.due(unit, "ask", 59, unit, 1);
        }
        x.due(-4, "ask", 59, 70, 1);
    }

    private static void pagesAreLimited(int pages) {
        Check x = new Check("pages", 1);
        x.due(0, "come", 59);
        x.borrow(59, 0, 1, 0);
        x.due(1, "limit", 59, 3, pages);
        if (pages > 0) {
            x.due(0, "copy", 0, pages, 1);
        }
        x.due(-4, "copy", 0, 1, 1);
    }

    private static void ofOnePersonOnly() {
        Check x = new Check("one person", 2);
        x.due(0, "come", 0);
        x.due(1, "come", 1);
        x.due(1, "limit", 0, 0, 0);
        x.borrow(1, 0, 1, 0);
        x.due(0, "copy", 0, 20, 1);
        x.due(1, "ask", 1, 1, 1);
        x.due(2, "ask", 1, 2, 1);
        x.due(-4, "ask", 1, 3, 1);
        x.due(-4, "ask", 0, 3, 1);
    }

    private static void wrongInputs() {
        Check x = new Check("wrong", 1);
        for (int person : new int[] {-1, 60, Integer.MIN_VALUE, Integer.MAX_VALUE}) {
            x.due(-1, "limit", person, 1, 1);
            x.due(-1, "limit", person, 10, 501);
        }
        x.due(1, "limit", 0, 1, 1);
        for (int requests : new int[] {-1, 10, Integer.MIN_VALUE, Integer.MAX_VALUE}) {
            x.due(-2, "limit", 0, requests, 7);
        }
        for (int pages : new int[] {-1, 501, Integer.MIN_VALUE, Integer.MAX_VALUE}) {
            x.due(-2, "limit", 0, 7, pages);
        }
        x.due(0, "come", 0);
        x.borrow(0, 0, 0, 0);
        x.due(-4, "ask", 0, 1, 0);
        x.due(0, "copy", 0, 1, 0);
        x.due(-4, "copy", 0, 1, 0);
    }
}
