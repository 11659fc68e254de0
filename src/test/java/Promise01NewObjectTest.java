/** Promise 1: seats 0 .. 20, nobody there, all units in the store, good, without restriction. */
public final class Promise01NewObjectTest {
    public static void main(String[] args) {
        for (int seats : new int[] {0, 1, 2, 19, 20}) {
            seatsAre(seats, seats);
        }
        seatsAre(-1, 0);
        seatsAre(Integer.MIN_VALUE, 0);
        seatsAre(21, 20);
        seatsAre(Integer.MAX_VALUE, 20);
        allIsNew();
        roomsShareNothing();
        Check.end();
    }

    private static void seatsAre(int given, int seats) {
        Check x = new Check("seats", given);
        for (int person = 0; person < 60; person++) {
            x.due(person < seats ? person : -10 - (person - seats), "come", person);
        }
        for (int person = 0; person < 60; person++) {
            x.personIs(person, person < seats ? person : -1, person < seats ? -1 : person - seats, 0, 0, 0);
        }
    }

    private static void allIsNew() {
        Check units = new Check("new units", 5);
        for (int unit = 0; unit < 80; unit++) {
            units.unitIs(unit, 0, 0, 0, -1, 0);
        }
        Check persons = new Check("new persons", 5);
        for (int person = 0; person < 60; person++) {
            persons.personIs(person, -1, -1, 0, 0, 0);
        }
        Check x = new Check("new", 5);
        x.missing("request", 0, 0);
        x.missing("waits", 0, 0);
        x.due(0, "close", 0);
    }

    private static void roomsShareNothing() {
        Check x = new Check("one", 1);
        Check y = new Check("other", 1);
        x.due(0, "come", 3);
        x.borrow(3, 4, 1000, 0);
        y.personIs(3, -1, -1, 0, 0, 0);
        y.unitIs(4, 0, 0, 0, -1, 0);
        y.due(0, "come", 3);
        y.due(0, "ask", 3, 4, 0);
    }
}
