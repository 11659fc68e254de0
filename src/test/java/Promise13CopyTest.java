/** Promise 13: copy. */
public final class Promise13CopyTest {
    public static void main(String[] args) {
        forWhoHasIt();
        inAll();
        aDayIsATimeDividedBy86400Cut();
        theLastDay();
        closingKeepsTheDay();
        none();
        rangeOfPages();
        rangeOfTime();
        stateIfNobodyHasIt();
        stateIfItsConditionIsAbove1();
        fullIfItWouldBeMore();
        fullUnderALoweredLimit();
        fullOnANewDay();
        Check.end();
    }

    private static void forWhoHasIt() {
        Check x = new Check("Pages of a unit are copied for who has it: how many that person has left on that day", 3);
        x.seat(0, 1, 59);
        x.borrow(0, 0, 1, 0);
        x.borrow(59, 79, 1, 1);
        x.due(2, "ask", 1, 0, 1);
        x.due(13, "copy", 0, 7, 1);
        x.due(12, "copy", 79, 8, 1);
        x.personIs(0, 0, -1, 1, 1, 7);
        x.personIs(1, 1, -1, 1, 0, 0);
        x.personIs(59, 2, -1, 1, 1, 8);
        x.due(0, "back", 0, 1);
        x.due(2, "look", 0, 0);
        x.due(1, "handOut", 0, 1);
        x.due(19, "copy", 0, 1, 1);
        x.personIs(0, 0, -1, 0, 0, 7);
        x.personIs(1, 1, -1, 1, 1, 1);
    }

    private static void inAll() {
        Check x = new Check("up to a person's PAGES for a day in all (20 at first)", 1);
        x.seat(0);
        x.borrow(0, 0, 1, 0);
        x.borrow(0, 1, 1, 1);
        x.due(13, "copy", 0, 7, 1);
        x.due(5, "copy", 1, 8, 2);
        x.full("copy", 1, 6, 3);
        x.full("copy", 0, 6, 3);
        x.due(1, "back", 1, 3);
        x.due(0, "copy", 0, 5, 3);
        x.full("copy", 0, 1, 3);
        x.due(20, "person", 0, 4);
    }

    private static void aDayIsATimeDividedBy86400Cut() {
        Check x = new Check("a day is a time divided by 86400, cut", 1);
        x.seat(0);
        x.borrow(0, 0, 0, 0);
        x.due(10, "copy", 0, 10, 0);
        x.due(6, "copy", 0, 4, 86399);
        x.due(14, "person", 0, 4);
        x.due(17, "copy", 0, 3, 86400);
        x.due(3, "person", 0, 4);
        x.due(16, "copy", 0, 1, 172799);
        x.due(4, "person", 0, 4);
        x.due(18, "copy", 0, 2, 172800);
        x.due(2, "person", 0, 4);
        x.due(17, "copy", 0, 3, 345600);
        x.due(3, "person", 0, 4);
    }

    private static void theLastDay() {
        Check x = new Check("a day is a time divided by 86400, cut", 1);
        x.seat(0);
        x.borrow(0, 0, 0, 0);
        x.due(19, "copy", 0, 1, 999993599);
        x.due(1, "copy", 0, 19, 999993600);
        x.due(0, "copy", 0, 1, 1000000000);
        x.full("copy", 0, 1, 1000000000);
        x.due(20, "person", 0, 4);
    }

    private static void closingKeepsTheDay() {
        Check x = new Check("PAGES for a day: closing does not say that the day is over", 1);
        x.seat(0);
        x.borrow(0, 0, 1, 0);
        x.due(2, "copy", 0, 18, 1);
        x.due(1, "close", 2);
        x.due(18, "person", 0, 4);
        x.seat(0);
        x.borrow(0, 0, 3, 1);
        x.full("copy", 0, 3, 3);
        x.due(0, "copy", 0, 2, 3);
    }

    private static void none() {
        Check x = new Check("copy: NONE", 1);
        x.seat(0);
        x.borrow(0, 0, 5, 0);
        x.borrow(0, 79, 5, 1);
        for (int unit : Check.noUnits()) {
            x.none("copy", unit, 1, 5);
        }
        x.due(19, "copy", 0, 1, 5);
        x.due(18, "copy", 79, 1, 5);
    }

    private static void rangeOfPages() {
        Check x = new Check("Pages, 1 .. 500: RANGE", 1);
        x.seat(0);
        x.due(1, "limit", 0, 3, 500);
        x.borrow(0, 0, 5, 0);
        for (int pages : new int[] {0, -1, 501, Integer.MIN_VALUE, Integer.MAX_VALUE}) {
            x.range("copy", 0, pages, 5);
        }
        x.due(499, "copy", 0, 1, 5);
        x.due(0, "copy", 0, 500, 86400);
    }

    private static void rangeOfTime() {
        Check x = new Check("copy: RANGE", 1);
        x.seat(0);
        x.borrow(0, 0, 0, 0);
        for (int t : Check.noTimes()) {
            x.range("copy", 0, 1, t);
        }
        x.due(19, "copy", 0, 1, 0);
        x.due(19, "copy", 0, 1, Check.LAST_TIME);
    }

    private static void stateIfNobodyHasIt() {
        Check x = new Check("STATE if nobody has it", 1);
        x.seat(0);
        x.state("copy", 0, 1, 1);
        x.due(0, "ask", 0, 0, 1);
        x.state("copy", 0, 1, 1);
        x.due(0, "fetch", 0, 1);
        x.state("copy", 0, 1, 1);
        x.due(0, "handOut", 0, 1);
        x.state("copy", 1, 1, 1);
        x.due(0, "back", 0, 1);
        x.state("copy", 0, 1, 1);
        x.borrow(0, 1, 1, 1);
        x.due(2, "close", 1);
        x.state("copy", 1, 1, 1);
    }

    private static void stateIfItsConditionIsAbove1() {
        Check x = new Check("STATE if its condition is above 1", 1);
        x.seat(0);
        x.wear(0, 0, 1, 0, 1);
        x.borrow(0, 0, 1, 1);
        x.due(19, "copy", 0, 1, 1);
        x.due(1, "back", 0, 1);
        x.due(Check.IN_THE_STORE, "look", 0, 2);
        x.borrow(0, 0, 1, 2);
        x.state("copy", 0, 1, 1);
        x.due(1, "person", 0, 4);
    }

    private static void fullIfItWouldBeMore() {
        Check x = new Check("FULL if it would be more than its PAGES", 1);
        x.seat(0);
        x.borrow(0, 0, 1, 0);
        x.full("copy", 0, 21, 1);
        x.full("copy", 0, 500, 1);
        x.due(1, "copy", 0, 19, 1);
        x.full("copy", 0, 2, 1);
        x.due(0, "copy", 0, 1, 1);
        x.full("copy", 0, 1, 1);
        x.due(1, "limit", 0, 3, 0);
        x.full("copy", 0, 1, 86400);
    }

    private static void fullUnderALoweredLimit() {
        Check x = new Check("FULL if it would be more than its PAGES", 1);
        x.seat(0);
        x.borrow(0, 0, 1, 0);
        x.due(10, "copy", 0, 10, 1);
        x.due(1, "limit", 0, 3, 5);
        x.full("copy", 0, 1, 1);
        x.due(1, "limit", 0, 3, 10);
        x.full("copy", 0, 1, 1);
        x.due(1, "limit", 0, 3, 11);
        x.due(0, "copy", 0, 1, 1);
        x.due(1, "limit", 0, 3, 500);
        x.full("copy", 0, 490, 1);
        x.due(0, "copy", 0, 489, 1);
        x.due(500, "person", 0, 4);
    }

    private static void fullOnANewDay() {
        Check x = new Check("pages copied on the latest day on which it copied any", 1);
        x.seat(0);
        x.borrow(0, 0, 1, 0);
        x.due(5, "copy", 0, 15, 86399);
        x.full("copy", 0, 21, 86400);
        x.due(15, "person", 0, 4);
        x.full("copy", 0, 6, 86399);
        x.due(0, "copy", 0, 20, 86400);
    }
}
