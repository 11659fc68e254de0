/** Promise 15: unit. */
public final class Promise15UnitTest {
    public static void main(String[] args) {
        throughAllPlaces();
        allConditions();
        allRestrictions();
        openRequests();
        noneForNoneSuch();
        noneForAnotherWhat();
        Check.end();
    }

    private static void throughAllPlaces() {
        Check x = new Check("its PLACE; the request that it is for or was given back by, or -1 in the store", 2);
        x.seat(0, 1);
        x.due(1, "right", 0, 3);
        x.due(1, "right", 1, 2);
        x.due(0, "restrict", 79, 2);
        x.due(0, "ask", 0, 1, 1);
        x.due(1, "ask", 0, 79, 1);
        x.due(2, "ask", 1, 79, 1);
        x.unitIs(79, 0, 0, 2, -1, 2);
        x.due(1, "fetch", 79, 1);
        x.unitIs(79, 1, 0, 2, 1, 1);
        x.due(0, "handOut", 79, 1);
        x.unitIs(79, 2, 0, 2, 1, 1);
        x.due(1, "back", 79, 1);
        x.unitIs(79, 3, 0, 2, 1, 1);
        x.due(2, "look", 79, 1);
        x.unitIs(79, 1, 1, 2, 2, 0);
        x.due(1, "handOut", 79, 1);
        x.unitIs(79, 2, 1, 2, 2, 0);
        x.due(2, "back", 79, 1);
        x.unitIs(79, 3, 1, 2, 2, 0);
        x.due(1000, "look", 79, 1);
        x.unitIs(79, 0, 1, 2, -1, 0);
        x.unitIs(78, 0, 0, 0, -1, 0);
        x.unitIs(1, 0, 0, 0, -1, 1);
        x.due(0, "fetch", 1, 1);
        x.unitIs(1, 1, 0, 0, 0, 0);
        x.due(1, "close", 1);
        x.unitIs(1, 0, 0, 0, -1, 0);
    }

    private static void allConditions() {
        Check x = new Check("1: condition; a CONDITION 0 (good) .. 3", 1);
        x.seat(0);
        for (int condition = 0; condition <= 3; condition++) {
            x.wear(0, 30, 1, condition, condition);
            x.due(condition, "unit", 30, 1);
            x.due(0, "unit", 31, 1);
        }
    }

    private static void allRestrictions() {
        Check x = new Check("2: restriction; a RESTRICTION 0 (none) .. 3", 1);
        for (int restriction : new int[] {3, 2, 1, 0}) {
            x.due(0, "restrict", 30, restriction);
            x.due(restriction, "unit", 30, 2);
            x.due(0, "unit", 31, 2);
        }
    }

    private static void openRequests() {
        Check x = new Check("4: how many OPEN requests of it there are", 20);
        for (int person = 0; person < 20; person++) {
            x.due(person, "come", person);
            x.due(person, "unit", 0, 4);
            x.due(person, "ask", person, 0, 1);
        }
        x.due(20, "unit", 0, 4);
        x.due(0, "unit", 1, 4);
        x.due(0, "fetch", 0, 1);
        x.due(19, "unit", 0, 4);
        x.due(1, "right", 7, 1);
        x.due(18, "restrict", 0, 1);
        x.due(1, "unit", 0, 4);
        x.due(1, "close", 1);
        x.due(0, "unit", 0, 4);
    }

    private static void noneForNoneSuch() {
        Check x = new Check("unit: NONE for none such", 1);
        for (int unit : Check.noUnits()) {
            for (int what = 0; what < 5; what++) {
                x.none("unit", unit, what);
            }
        }
        x.unitIs(0, 0, 0, 0, -1, 0);
        x.unitIs(79, 0, 0, 0, -1, 0);
    }

    private static void noneForAnotherWhat() {
        Check x = new Check("unit: NONE for another what", 1);
        x.seat(0);
        x.borrow(0, 0, 1, 0);
        for (int what : new int[] {-1, 5, 6, Integer.MIN_VALUE, Integer.MAX_VALUE}) {
            x.none("unit", 0, what);
            x.none("unit", 80, what);
        }
        x.unitIs(0, 2, 0, 0, 0, 0);
    }
}
