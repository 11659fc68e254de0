/** Promise 5: fetch. */
public final class Promise05FetchTest {
    public static void main(String[] args) {
        theRequestThatGoesAhead();
        aUnitIsForOneRequestAtATime();
        theFirstIsGone();
        seatAndRightPlayNoPart();
        none();
        range();
        stateIfItIsNotInTheStore();
        stateIfNoRequestOfItIsOpen();
        stateIfItsConditionIs3();
        Check.end();
    }

    private static void theRequestThatGoesAhead() {
        Check x = new Check("of its OPEN ones the one asked for first goes ahead, by numbers", 3);
        x.seat(2, 1, 0);
        x.due(0, "ask", 0, 78, 1);
        x.due(1, "ask", 2, 79, 1);
        x.due(2, "ask", 0, 79, 1);
        x.due(3, "ask", 1, 79, 1);
        x.due(1, "fetch", 79, 2);
        x.unitIs(79, Check.WAY, 0, 0, 1, 2);
        x.unitIs(78, Check.STORE, 0, 0, -1, 1);
        x.requestIs(1, 2, 79, Check.FETCHED, 1, -1, -1);
        x.requestIs(2, 0, 79, Check.OPEN, 1, -1, -1);
        x.requestIs(3, 1, 79, Check.OPEN, 1, -1, -1);
        x.personIs(2, 0, -1, 1, 0, 0);
        x.due(0, "fetch", 78, 2);
    }

    private static void aUnitIsForOneRequestAtATime() {
        Check x = new Check("A unit is for one request at a time", 3);
        x.seat(0, 1, 2);
        x.due(0, "ask", 0, 7, 1);
        x.due(1, "ask", 1, 7, 1);
        x.due(2, "ask", 2, 7, 1);
        for (int number = 0; number < 3; number++) {
            x.due(number, "fetch", 7, 1);
            x.unitIs(7, Check.WAY, number == 0 ? 0 : 2, 0, number, 2 - number);
            x.due(number, "handOut", 7, 1);
            x.due(number, "back", 7, 1);
            x.due(Check.IN_THE_STORE, "look", 7, 2);
        }
        x.state("fetch", 7, 1);
    }

    private static void theFirstIsGone() {
        Check x = new Check("of its OPEN ones the one asked for first goes ahead, by numbers", 2);
        x.seat(0, 1);
        x.due(1, "right", 1, 1);
        x.due(0, "ask", 0, 7, 1);
        x.due(1, "ask", 1, 7, 1);
        x.due(1, "restrict", 7, 1);
        x.due(1, "fetch", 7, 1);
    }

    private static void seatAndRightPlayNoPart() {
        Check x = new Check("nothing is said of the person's seat and right", 1);
        x.seat(0);
        x.due(1, "right", 0, 3);
        x.due(0, "restrict", 7, 3);
        x.due(0, "ask", 0, 7, 1);
        x.due(1, "right", 0, 0);
        x.due(100, "leave", 0);
        x.due(0, "fetch", 7, 1);
        x.unitIs(7, Check.WAY, 0, 3, 0, 0);
    }

    private static void none() {
        Check x = new Check("fetch: NONE if there is no such unit", 1);
        x.seat(0);
        x.due(0, "ask", 0, 0, 5);
        x.due(1, "ask", 0, 79, 5);
        for (int unit : Check.noUnits()) {
            x.none("fetch", unit, 5);
        }
        x.due(0, "fetch", 0, 5);
        x.due(1, "fetch", 79, 5);
    }

    private static void range() {
        Check x = new Check("fetch: RANGE", 1);
        x.seat(0);
        x.due(0, "ask", 0, 0, 0);
        x.due(1, "ask", 0, 1, 0);
        for (int t : Check.noTimes()) {
            x.range("fetch", 0, t);
        }
        x.due(0, "fetch", 0, 0);
        x.due(1, "fetch", 1, Check.LAST_TIME);
    }

    private static void stateIfItIsNotInTheStore() {
        Check x = new Check("STATE if it is not in the store", 2);
        x.seat(0, 1);
        x.due(0, "ask", 0, 5, 0);
        x.due(1, "ask", 1, 5, 0);
        x.due(0, "fetch", 5, 0);
        x.state("fetch", 5, 0);
        x.due(0, "handOut", 5, 0);
        x.state("fetch", 5, 0);
        x.due(0, "back", 5, 0);
        x.state("fetch", 5, 0);
        x.due(Check.IN_THE_STORE, "look", 5, 2);
        x.due(1, "fetch", 5, 0);
    }

    private static void stateIfNoRequestOfItIsOpen() {
        Check x = new Check("STATE if no request of it is OPEN", 1);
        x.seat(0);
        x.state("fetch", 5, 0);
        x.due(0, "ask", 0, 6, 0);
        x.state("fetch", 5, 0);
        x.wear(0, 5, 0, 1, 0);
        x.state("fetch", 5, 0);
        x.due(2, "ask", 0, 5, 0);
        x.due(1, "restrict", 5, 1);
        x.state("fetch", 5, 0);
        x.due(0, "close", 0);
        x.state("fetch", 6, 0);
        x.state("fetch", 5, 0);
    }

    private static void stateIfItsConditionIs3() {
        Check x = new Check("STATE if its condition is 3", 1);
        x.seat(0);
        for (int condition = 0; condition <= 3; condition++) {
            x.wear(0, 5, 0, condition, condition);
        }
        x.due(4, "ask", 0, 5, 0);
        x.state("fetch", 5, 0);
        x.due(1, "mend", 5);
        x.due(4, "fetch", 5, 0);
    }
}
