/** Promise 12: limit. */
public final class Promise12LimitTest {
    public static void main(String[] args) {
        for (int person = 0; person < 60; person++) {
            firstLimits(person);
        }
        for (int requests = 0; requests <= 9; requests++) {
            requestsAreLimited(requests);
        }
        for (int pages : new int[] {0, 1, 19, 20, 21, 499, 500}) {
            pagesAreLimited(pages);
        }
        ofOnePersonOnly();
        whatIsThereStays();
        none();
        rangeOfRequests();
        rangeOfPages();
        Check.end();
    }

    private static void firstLimits(int person) {
        Check x = new Check("LIMIT (3 at first), PAGES (20 at first)", 1);
        x.seat(person);
        x.borrow(person, 0, 0, 0);
        x.due(1, "ask", person, 1, 0);
        x.due(2, "ask", person, 2, 0);
        x.full("ask", person, 3, 0);
        x.full("copy", 0, 21, 0);
        x.due(0, "copy", 0, 20, 0);
    }

    private static void requestsAreLimited(int requests) {
        Check x = new Check("A person's LIMIT of requests, 0 .. 9: 1", 1);
        x.seat(59);
        x.due(1, "limit", 59, requests, 20);
        for (int unit = 0; unit < requests; unit++) {
            x.due(unit, "ask", 59, unit, 1);
        }
        x.full("ask", 59, 70, 1);
    }

    private static void pagesAreLimited(int pages) {
        Check x = new Check("PAGES a day, 0 .. 500: 1", 1);
        x.seat(59);
        x.borrow(59, 0, 1, 0);
        x.due(1, "limit", 59, 3, pages);
        if (pages < 500) {
            x.full("copy", 0, pages + 1, 1);
        }
        if (pages > 0) {
            x.due(0, "copy", 0, pages, 1);
        }
        x.full("copy", 0, 1, 1);
    }

    private static void ofOnePersonOnly() {
        Check x = new Check("A person's LIMIT", 3);
        x.seat(0, 1, 2);
        x.due(1, "limit", 1, 1, 1);
        x.borrow(0, 0, 1, 0);
        x.borrow(1, 1, 1, 1);
        x.borrow(2, 2, 1, 2);
        x.due(19, "copy", 0, 1, 1);
        x.due(0, "copy", 1, 1, 1);
        x.due(19, "copy", 2, 1, 1);
        x.due(3, "ask", 0, 3, 1);
        x.full("ask", 1, 3, 1);
        x.due(4, "ask", 2, 3, 1);
    }

    private static void whatIsThereStays() {
        Check x = new Check("nothing is said of requests and pages that are there", 1);
        x.seat(0);
        x.borrow(0, 0, 1, 0);
        x.due(1, "ask", 0, 1, 1);
        x.due(5, "copy", 0, 15, 1);
        x.due(1, "limit", 0, 0, 0);
        x.personIs(0, 0, -1, 2, 1, 15);
        x.due(1, "fetch", 1, 1);
        x.due(0, "handOut", 1, 1);
        x.due(1, "limit", 0, 3, 16);
        x.due(0, "copy", 0, 1, 1);
    }

    private static void none() {
        Check x = new Check("limit: NONE", 2);
        for (int person : Check.noPersons()) {
            x.none("limit", person, 1, 1);
        }
        x.due(1, "limit", 0, 0, 0);
        x.due(1, "limit", 59, 0, 0);
        x.seat(0, 59);
        x.full("ask", 0, 0, 0);
        x.full("ask", 59, 0, 0);
    }

    private static void rangeOfRequests() {
        Check x = new Check("LIMIT of requests, 0 .. 9: RANGE", 1);
        x.seat(0);
        x.due(1, "limit", 0, 1, 1);
        for (int requests : new int[] {-1, 10, Integer.MIN_VALUE, Integer.MAX_VALUE}) {
            x.range("limit", 0, requests, 7);
        }
        x.borrow(0, 0, 0, 0);
        x.full("ask", 0, 1, 0);
        x.full("copy", 0, 2, 0);
        x.due(0, "copy", 0, 1, 0);
    }

    private static void rangeOfPages() {
        Check x = new Check("PAGES a day, 0 .. 500: RANGE", 1);
        x.seat(0);
        x.due(1, "limit", 0, 1, 1);
        for (int pages : new int[] {-1, 501, Integer.MIN_VALUE, Integer.MAX_VALUE}) {
            x.range("limit", 0, 7, pages);
        }
        x.range("limit", 0, 10, 501);
        x.range("limit", 0, -1, -1);
        x.borrow(0, 0, 0, 0);
        x.full("ask", 0, 1, 0);
        x.full("copy", 0, 2, 0);
        x.due(0, "copy", 0, 1, 0);
    }
}
