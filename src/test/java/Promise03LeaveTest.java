/** Promise 3: leave. */
public final class Promise03LeaveTest {
    public static void main(String[] args) {
        whoHasItsSeatNow();
        nobodyHasItsSeat();
        alsoIfItWaited();
        everybodyWaits();
        none();
        stateIfItIsNotThere();
        stateIfItHasAUnit();
        aUnitOnItsWayOrAtTheDeskIsNotHad();
        requestsStay();
        Check.end();
    }

    private static void whoHasItsSeatNow() {
        Check x = new Check("who has its seat now; first come first served", 2);
        x.seat(10, 11);
        x.due(-10, "come", 14);
        x.due(-11, "come", 0);
        x.due(-12, "come", 12);
        x.due(14, "leave", 11);
        x.personIs(11, -1, -1);
        x.personIs(14, 1, -1);
        x.personIs(0, -1, 0);
        x.personIs(12, -1, 1);
        x.due(0, "leave", 10);
        x.personIs(0, 0, -1);
        x.personIs(12, -1, 0);
        x.due(12, "leave", 14);
        x.personIs(12, 1, -1);
        x.due(100, "leave", 12);
        x.due(1, "come", 12);
    }

    private static void nobodyHasItsSeat() {
        Check x = new Check("or 100 if nobody does", 3);
        x.seat(10, 11, 12);
        x.due(100, "leave", 11);
        x.personIs(11, -1, -1);
        x.personIs(10, 0, -1);
        x.personIs(12, 2, -1);
        x.due(100, "leave", 10);
        x.due(100, "leave", 12);
        x.seat(12, 11, 10);
    }

    private static void alsoIfItWaited() {
        Check x = new Check("100 (also if it waited)", 1);
        x.seat(0);
        for (int person = 1; person < 6; person++) {
            x.due(-9 - person, "come", person);
        }
        x.due(100, "leave", 3);
        x.personIs(0, 0, -1);
        x.personIs(1, -1, 0);
        x.personIs(2, -1, 1);
        x.personIs(3, -1, -1);
        x.personIs(4, -1, 2);
        x.personIs(5, -1, 3);
        x.due(100, "leave", 5);
        x.due(100, "leave", 1);
        x.personIs(2, -1, 0);
        x.personIs(4, -1, 1);
        x.due(2, "leave", 0);
        x.due(4, "leave", 2);
        x.due(100, "leave", 4);
    }

    private static void everybodyWaits() {
        Check x = new Check("100 (also if it waited)", 0);
        for (int person = 0; person < 60; person++) {
            x.due(-10 - person, "come", person);
        }
        x.due(100, "leave", 0);
        x.personIs(1, -1, 0);
        x.personIs(59, -1, 58);
        x.due(-69, "come", 0);
        x.due(100, "leave", 0);
        x.due(100, "leave", 59);
        for (int person = 1; person < 59; person++) {
            x.due(100, "leave", person);
        }
        x.due(-10, "come", 59);
    }

    private static void none() {
        Check x = new Check("leave: NONE", 1);
        for (int person : Check.noPersons()) {
            x.none("leave", person);
        }
        x.seat(0);
        x.due(-10, "come", 59);
        for (int person : Check.noPersons()) {
            x.none("leave", person);
        }
        x.due(59, "leave", 0);
        x.due(100, "leave", 59);
    }

    private static void stateIfItIsNotThere() {
        Check x = new Check("STATE if it has no seat and does not wait", 1);
        x.state("leave", 0);
        x.seat(0);
        x.due(-10, "come", 1);
        x.due(-11, "come", 2);
        x.state("leave", 3);
        x.due(100, "leave", 2);
        x.state("leave", 2);
        x.due(1, "leave", 0);
        x.state("leave", 0);
        x.due(0, "close", 0);
        x.state("leave", 1);
    }

    private static void stateIfItHasAUnit() {
        Check x = new Check("STATE if it has a unit", 2);
        x.seat(0, 1);
        x.due(-10, "come", 2);
        x.borrow(0, 9, 5, 0);
        x.state("leave", 0);
        x.borrow(0, 79, 5, 1);
        x.state("leave", 0);
        x.due(0, "back", 9, 6);
        x.state("leave", 0);
        x.due(2, "leave", 1);
        x.due(1, "back", 79, 6);
        x.due(100, "leave", 0);
    }

    private static void aUnitOnItsWayOrAtTheDeskIsNotHad() {
        Check way = new Check("a person may go while its unit is on its way", 1);
        way.seat(0);
        way.due(0, "ask", 0, 9, 5);
        way.due(0, "fetch", 9, 5);
        way.due(100, "leave", 0);

        Check desk = new Check("a person may go when its unit is at the desk", 1);
        desk.seat(0);
        desk.borrowAndReturn(0, 9, 5, 0);
        desk.due(100, "leave", 0);
    }

    private static void requestsStay() {
        Check x = new Check("nothing is said of requests: they stay", 1);
        x.seat(0);
        x.due(0, "ask", 0, 5, 1);
        x.due(1, "ask", 0, 6, 1);
        x.due(1, "fetch", 6, 1);
        x.due(100, "leave", 0);
        x.personIs(0, -1, -1, 2, 0, 0);
        x.requestIs(0, 0, 5, Check.OPEN, 1, -1, -1);
        x.requestIs(1, 0, 6, Check.FETCHED, 1, -1, -1);
        x.due(0, "fetch", 5, 1);
    }
}
