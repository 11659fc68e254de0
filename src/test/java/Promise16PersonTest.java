/** Promise 16: person. */
public final class Promise16PersonTest {
    public static void main(String[] args) {
        itsSeat();
        itsPlaceInTheRow();
        requestsThatAreNotDoneOrGone();
        unitsThatItHas();
        pagesOnTheLatestDay();
        noneForNoneSuch();
        noneForAnotherWhat();
        Check.end();
    }

    private static void itsSeat() {
        Check x = new Check("0: its seat, or -1", 20);
        for (int person = 59; person >= 40; person--) {
            x.due(-1, "person", person, 0);
            x.due(59 - person, "come", person);
            x.due(59 - person, "person", person, 0);
        }
        x.due(-10, "come", 0);
        x.due(-1, "person", 0, 0);
        x.due(0, "leave", 41);
        x.due(18, "person", 0, 0);
        x.due(-1, "person", 41, 0);
    }

    private static void itsPlaceInTheRow() {
        Check x = new Check("1: its place in the row of those that wait, or -1", 1);
        x.seat(0);
        x.due(-1, "person", 0, 1);
        x.due(-1, "person", 59, 1);
        for (int person = 59; person >= 1; person--) {
            x.due(-10 - (59 - person), "come", person);
            x.due(59 - person, "person", person, 1);
        }
        x.due(100, "leave", 58);
        x.due(-1, "person", 58, 1);
        x.due(0, "person", 59, 1);
        x.due(57, "person", 1, 1);
        x.due(59, "leave", 0);
        x.due(-1, "person", 59, 1);
        x.due(56, "person", 1, 1);
    }

    private static void requestsThatAreNotDoneOrGone() {
        Check x = new Check("2: requests that are not DONE or GONE", 2);
        x.seat(0, 59);
        x.due(1, "limit", 59, 9, 20);
        for (int unit = 0; unit < 9; unit++) {
            x.due(unit, "person", 59, 2);
            x.due(unit, "ask", 59, unit, 1);
        }
        x.due(9, "person", 59, 2);
        x.due(0, "person", 0, 2);
        x.due(0, "fetch", 0, 1);
        x.due(9, "person", 59, 2);
        x.due(59, "handOut", 0, 1);
        x.due(9, "person", 59, 2);
        x.due(0, "back", 0, 1);
        x.due(8, "person", 59, 2);
        x.due(1, "restrict", 1, 1);
        x.due(7, "person", 59, 2);
        x.due(100, "leave", 59);
        x.due(7, "person", 59, 2);
        x.due(1, "close", 1);
        x.due(0, "person", 59, 2);
    }

    private static void unitsThatItHas() {
        Check x = new Check("3: units that it has", 2);
        x.seat(0, 59);
        x.due(1, "limit", 59, 9, 20);
        for (int unit = 0; unit < 9; unit++) {
            x.due(unit, "ask", 59, unit, 1);
            x.due(unit, "fetch", unit, 1);
            x.due(unit, "person", 59, 3);
            x.due(59, "handOut", unit, 1);
        }
        x.due(9, "person", 59, 3);
        x.due(0, "person", 0, 3);
        x.due(4, "back", 4, 1);
        x.due(8, "person", 59, 3);
        x.due(9, "close", 1);
        x.due(0, "person", 59, 3);
    }

    private static void pagesOnTheLatestDay() {
        Check x = new Check("4: pages copied on the latest day on which it copied any", 2);
        x.seat(0, 59);
        x.due(0, "person", 59, 4);
        x.borrow(59, 1, 1, 0);
        x.due(0, "person", 59, 4);
        x.due(11, "copy", 1, 9, 1);
        x.due(9, "person", 59, 4);
        x.due(0, "copy", 1, 11, 86399);
        x.due(20, "person", 59, 4);
        x.due(0, "back", 1, 200000);
        x.due(20, "person", 59, 4);
        x.due(1000, "look", 1, 0);
        x.due(100, "leave", 59);
        x.due(20, "person", 59, 4);
        x.due(0, "close", 300000);
        x.due(20, "person", 59, 4);
        x.seat(59);
        x.borrow(59, 1, 300000, 1);
        x.due(20, "person", 59, 4);
        x.due(19, "copy", 1, 1, 300000);
        x.due(1, "person", 59, 4);
        x.due(0, "person", 0, 4);
    }

    private static void noneForNoneSuch() {
        Check x = new Check("person: NONE for none such", 1);
        x.seat(0);
        for (int person : Check.noPersons()) {
            for (int what = 0; what < 5; what++) {
                x.none("person", person, what);
            }
        }
        x.personIs(0, 0, -1, 0, 0, 0);
        x.personIs(59, -1, -1, 0, 0, 0);
    }

    private static void noneForAnotherWhat() {
        Check x = new Check("person: NONE for another what", 1);
        x.seat(0);
        for (int what : new int[] {-1, 5, 6, Integer.MIN_VALUE, Integer.MAX_VALUE}) {
            x.none("person", 0, what);
            x.none("person", 60, what);
        }
    }
}
