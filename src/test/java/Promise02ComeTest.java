/** Promise 2: come. */
public final class Promise02ComeTest {
    public static void main(String[] args) {
        theLeastFreeSeat();
        allSeatsAndOneMore();
        placesInTheRow();
        theLongestRow();
        none();
        stateIfItHasASeat();
        stateIfItWaits();
        Check.end();
    }

    private static void theLeastFreeSeat() {
        Check x = new Check("the number of its seat, the least that is free, from 0 on", 4);
        x.seat(59, 0, 30, 31);
        x.due(100, "leave", 30);
        x.due(100, "leave", 0);
        x.due(1, "come", 30);
        x.due(100, "leave", 59);
        x.due(0, "come", 7);
        x.due(2, "come", 59);
        x.personIs(30, 1, -1);
        x.personIs(7, 0, -1);
        x.personIs(59, 2, -1);
        x.personIs(31, 3, -1);
    }

    private static void allSeatsAndOneMore() {
        Check x = new Check("the number of its seat, the least that is free, from 0 on", 20);
        for (int person = 0; person < 20; person++) {
            x.due(person, "come", person);
        }
        x.due(-10, "come", 20);
        x.personIs(19, 19, -1);
        x.personIs(20, -1, 0);
    }

    private static void placesInTheRow() {
        Check x = new Check("-10 less its place in the row of those that wait, from 0 on", 1);
        x.seat(5);
        x.due(-10, "come", 4);
        x.due(-11, "come", 59);
        x.due(-12, "come", 0);
        x.personIs(4, -1, 0);
        x.personIs(59, -1, 1);
        x.personIs(0, -1, 2);
        x.due(100, "leave", 4);
        x.due(-12, "come", 4);
        x.due(59, "leave", 5);
        x.due(-12, "come", 5);
        x.personIs(0, -1, 0);
        x.personIs(4, -1, 1);
        x.personIs(5, -1, 2);
    }

    private static void theLongestRow() {
        Check x = new Check("-10 less its place in the row of those that wait, from 0 on", 0);
        for (int person = 59; person >= 0; person--) {
            x.due(-10 - (59 - person), "come", person);
        }
        for (int person = 0; person < 60; person++) {
            x.personIs(person, -1, 59 - person);
        }
        x.state("come", 0);
        x.state("come", 59);
        x.due(100, "leave", 30);
        x.due(-69, "come", 30);
    }

    private static void none() {
        Check x = new Check("come: NONE", 3);
        for (int person : Check.noPersons()) {
            x.none("come", person);
        }
        x.seat(0, 59);
        Check full = new Check("come: NONE", 0);
        for (int person : Check.noPersons()) {
            full.none("come", person);
        }
        full.due(-10, "come", 59);
    }

    private static void stateIfItHasASeat() {
        Check x = new Check("STATE if it has a seat", 2);
        x.seat(8, 9);
        x.state("come", 8);
        x.state("come", 9);
        x.due(-10, "come", 10);
        x.due(10, "leave", 8);
        x.state("come", 10);
        x.due(-10, "come", 8);

        Check free = new Check("STATE if it has a seat", 3);
        free.seat(8);
        free.state("come", 8);
        free.due(100, "leave", 8);
        free.due(0, "come", 8);
    }

    private static void stateIfItWaits() {
        Check x = new Check("STATE if it waits", 1);
        x.seat(0);
        x.due(-10, "come", 1);
        x.state("come", 1);
        x.due(-11, "come", 2);
        x.due(-12, "come", 3);
        x.state("come", 1);
        x.state("come", 2);
        x.state("come", 3);
        x.due(100, "leave", 2);
        x.state("come", 3);
        x.due(-12, "come", 2);
    }
}
