/** Promise 1: a new object. */
public final class Promise01NewObjectTest {
    public static void main(String[] args) {
        for (int seats = 0; seats <= 20; seats++) {
            seatsAre(seats, seats);
        }
        for (int less : new int[] {-1, -20, Integer.MIN_VALUE}) {
            seatsAre(less, 0);
        }
        for (int more : new int[] {21, 60, Integer.MAX_VALUE}) {
            seatsAre(more, 20);
        }
        nobodyIsThere();
        nobodyHasDoneAnything();
        allUnitsAreInTheStoreGoodWithoutRestriction();
        thereAreNoRequests();
        objectsShareNothing();
        Check.end();
    }

    private static void seatsAre(int given, int seats) {
        Check x = new Check("Seats 0 .. 20 (what is less or more is the nearest)", given);
        for (int person = 0; person < 60; person++) {
            x.due(person < seats ? person : -10 - (person - seats), "come", person);
        }
        for (int person = 0; person < 60; person++) {
            x.personIs(person, person < seats ? person : -1, person < seats ? -1 : person - seats, 0, 0, 0);
        }
    }

    private static void nobodyIsThere() {
        Check x = new Check("nobody is there", 20);
        for (int person = 0; person < 60; person++) {
            x.personIs(person, -1, -1);
            x.state("leave", person);
        }
        x.due(0, "come", 59);
    }

    private static void nobodyHasDoneAnything() {
        Check x = new Check("nobody is there", 20);
        for (int person = 0; person < 60; person++) {
            x.personIs(person, -1, -1, 0, 0, 0);
        }
    }

    private static void allUnitsAreInTheStoreGoodWithoutRestriction() {
        Check x = new Check("all units are in the store, good, without restriction", 5);
        for (int unit = 0; unit < 80; unit++) {
            x.unitIs(unit, Check.STORE, 0, 0, -1, 0);
        }
        x.due(0, "close", 0);
    }

    private static void thereAreNoRequests() {
        Check x = new Check("a new object has no requests", 5);
        for (int what = 0; what < 6; what++) {
            x.missing("request", 0, what);
            x.missing("request", 299, what);
        }
        for (int unit = 0; unit < 80; unit++) {
            x.missing("waits", unit, 0);
        }
    }

    private static void objectsShareNothing() {
        Check x = new Check("one object", 1);
        Check y = new Check("another object", 1);
        x.seat(3);
        x.due(1, "right", 3, 1);
        x.due(0, "restrict", 4, 1);
        x.borrow(3, 4, 1000, 0);
        y.personIs(3, -1, -1, 0, 0, 0);
        y.unitIs(4, Check.STORE, 0, 0, -1, 0);
        y.seat(3);
        y.due(0, "ask", 3, 4, 0);
    }
}
