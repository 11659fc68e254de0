/** Promise 4: ask. */
public final class Promise04AskTest {
    public static void main(String[] args) {
        itsNumber();
        none();
        range();
        stateIfThePersonHasNoSeat();
        stateIfItHasARequestOfThisUnit();
        anEndedRequestOfThisUnitIsNoReason();
        right();
        fullIfItsLimitIsReached();
        whatCountsForTheLimit();
        fullIfThereAre300();
        Check.end();
    }

    private static void itsNumber() {
        Check x = new Check("A request: its number", 2);
        x.seat(0, 59);
        x.due(0, "ask", 0, 79, 0);
        x.due(1, "ask", 59, 79, 4);
        x.due(2, "ask", 59, 0, 4);
        x.requestIs(0, 0, 79, Check.OPEN, 0, -1, -1);
        x.requestIs(1, 59, 79, Check.OPEN, 4, -1, -1);
        x.requestIs(2, 59, 0, Check.OPEN, 4, -1, -1);
        x.unitIs(79, Check.STORE, 0, 0, -1, 2);
        x.personIs(59, 1, -1, 2, 0, 0);
        x.due(0, "close", 5);
        x.seat(0);
        x.due(3, "ask", 0, 79, 5);
    }

    private static void none() {
        Check x = new Check("NONE if there is no such person or unit", 2);
        x.seat(0, 59);
        for (int person : Check.noPersons()) {
            x.none("ask", person, 0, 0);
        }
        for (int unit : Check.noUnits()) {
            x.none("ask", 0, unit, 0);
        }
        x.none("ask", 60, 80, 0);
        x.due(0, "ask", 0, 0, 0);
        x.due(1, "ask", 59, 79, 0);
    }

    private static void range() {
        Check x = new Check("ask: RANGE", 1);
        x.seat(0);
        for (int t : Check.noTimes()) {
            x.range("ask", 0, 0, t);
        }
        x.due(0, "ask", 0, 0, 0);
        x.due(1, "ask", 0, 1, Check.LAST_TIME);
        x.range("ask", 0, 2, Check.LAST_TIME - 1);
        x.range("ask", 0, 2, Check.LAST_TIME + 1);
        x.due(2, "ask", 0, 2, Check.LAST_TIME);
    }

    private static void stateIfThePersonHasNoSeat() {
        Check x = new Check("STATE if the person has no seat", 1);
        x.state("ask", 0, 5, 1);
        x.seat(0);
        x.due(-10, "come", 1);
        x.state("ask", 1, 5, 1);
        x.state("ask", 2, 5, 1);
        x.due(1, "leave", 0);
        x.state("ask", 0, 5, 1);
        x.due(0, "ask", 1, 5, 1);
        x.due(0, "close", 1);
        x.state("ask", 1, 5, 1);
    }

    private static void stateIfItHasARequestOfThisUnit() {
        Check x = new Check("STATE if the person has a request of this unit that is not DONE or GONE", 2);
        x.seat(0, 1);
        x.due(0, "ask", 0, 79, 5);
        x.state("ask", 0, 79, 5);
        x.due(0, "fetch", 79, 5);
        x.state("ask", 0, 79, 5);
        x.due(0, "handOut", 79, 5);
        x.state("ask", 0, 79, 5);
        x.due(1, "ask", 1, 79, 5);
        x.due(2, "ask", 0, 78, 5);
    }

    private static void anEndedRequestOfThisUnitIsNoReason() {
        Check back = new Check("a request that is DONE, given back", 1);
        back.seat(0);
        back.borrowAndReturn(0, 79, 5, 0);
        back.due(1, "ask", 0, 79, 5);

        Check withdrawn = new Check("a request that is GONE, the unit withdrawn", 1);
        withdrawn.seat(0);
        withdrawn.due(0, "ask", 0, 79, 5);
        withdrawn.due(1, "restrict", 79, 1);
        withdrawn.due(1, "right", 0, 1);
        withdrawn.due(1, "ask", 0, 79, 5);

        Check closed = new Check("requests that are DONE or GONE, closed", 1);
        closed.seat(0);
        closed.due(0, "ask", 0, 77, 5);
        closed.due(1, "ask", 0, 78, 5);
        closed.due(1, "fetch", 78, 5);
        closed.borrow(0, 79, 5, 2);
        closed.due(2, "close", 5);
        closed.seat(0);
        closed.due(3, "ask", 0, 77, 5);
        closed.due(4, "ask", 0, 78, 5);
        closed.due(5, "ask", 0, 79, 5);
    }

    private static void right() {
        for (int restriction = 0; restriction <= 3; restriction++) {
            for (int right = 0; right <= 3; right++) {
                Check x = new Check("it takes a RIGHT that high at least", 1);
                x.seat(0);
                x.due(0, "restrict", 79, restriction);
                x.due(1, "right", 0, right);
                if (right < restriction) {
                    x.right("ask", 0, 79, 0);
                } else {
                    x.due(0, "ask", 0, 79, 0);
                }
            }
        }
    }

    private static void fullIfItsLimitIsReached() {
        Check x = new Check("FULL if its LIMIT is reached", 2);
        x.seat(0, 1);
        x.due(0, "ask", 0, 0, 0);
        x.due(1, "ask", 0, 1, 0);
        x.due(2, "ask", 0, 2, 0);
        x.full("ask", 0, 3, 0);
        x.due(3, "ask", 1, 3, 0);
        x.due(1, "limit", 0, 4, 20);
        x.due(4, "ask", 0, 3, 0);
        x.full("ask", 0, 4, 0);
        x.due(1, "limit", 0, 2, 20);
        x.full("ask", 0, 4, 0);
        x.due(1, "limit", 0, 0, 20);
        x.full("ask", 0, 4, 0);
        x.due(0, "close", 0);
        x.seat(0);
        x.full("ask", 0, 4, 0);
    }

    private static void whatCountsForTheLimit() {
        Check x = new Check("A person may have so many requests that are not DONE or GONE as its LIMIT says", 1);
        x.seat(0);
        x.due(1, "limit", 0, 1, 20);
        x.due(0, "ask", 0, 0, 0);
        x.full("ask", 0, 9, 0);
        x.due(0, "fetch", 0, 0);
        x.full("ask", 0, 9, 0);
        x.due(0, "handOut", 0, 0);
        x.full("ask", 0, 9, 0);
        x.due(0, "back", 0, 0);
        x.due(1, "ask", 0, 1, 0);
        x.full("ask", 0, 9, 0);
        x.due(1, "restrict", 1, 1);
        x.due(2, "ask", 0, 2, 0);
        x.full("ask", 0, 9, 0);
        x.due(1, "close", 0);
        x.seat(0);
        x.due(3, "ask", 0, 9, 0);
        x.due(3, "fetch", 9, 0);
        x.due(1, "close", 0);
        x.seat(0);
        x.due(4, "ask", 0, 9, 0);
    }

    private static void fullIfThereAre300() {
        Check x = new Check("FULL if there are 300", 20);
        for (int person = 0; person < 20; person++) {
            x.due(1, "limit", person, 9, 0);
            x.due(person, "come", person);
            for (int unit = 0; unit < 9; unit++) {
                x.due(person * 9 + unit, "ask", person, unit, 0);
            }
        }
        x.due(0, "close", 1);
        for (int person = 0; person < 14; person++) {
            x.due(person, "come", person);
            for (int unit = 0; unit < 9 && 180 + person * 9 + unit < 300; unit++) {
                x.due(180 + person * 9 + unit, "ask", person, unit, 1);
            }
        }
        x.due(100, "leave", 12);
        x.requestIs(299, 13, 2, Check.OPEN, 1, -1, -1);
        x.missing("request", 300, 0);
        x.full("ask", 13, 3, 1);
        x.full("ask", 0, 70, 1);
        x.personIs(13, 13, -1, 3);
        x.due(299, "waits", 2, 13);
        x.missing("waits", 2, 14);
        x.due(0, "close", 2);
        x.seat(50);
        x.full("ask", 50, 70, 2);
        x.requestIs(299, 13, 2, Check.GONE, 1, -1, -1);
    }
}
