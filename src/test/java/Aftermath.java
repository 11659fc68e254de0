import java.util.ArrayList;
import java.util.List;
import java.util.Set;
import java.util.TreeSet;

/**
 * All that can be seen of a room after a run of calls: what it tells, and, for what it does not tell (time, rights,
 * limits, days of copying), what its next calls answer. Each look is taken at a room of its own that made the run
 * anew, so that no look disturbs another and no room makes more calls than the document speaks of.
 */
final class Aftermath {
    private static final int PROMISED_CALLS = 512;
    private static final int LAST_TIME = 1000000000;
    private static final Set<String> OF_A_PERSON = Set.of("come", "leave", "ask", "right", "limit", "person");
    private static final Set<String> OF_A_UNIT =
            Set.of("fetch", "handOut", "back", "look", "mend", "restrict", "copy", "unit", "waits");
    private static final Set<String> AT_A_TIME = Set.of("ask", "fetch", "handOut", "back", "copy", "close");

    private final Set<Integer> persons = new TreeSet<>();
    private final Set<Integer> units = new TreeSet<>();
    private final Set<Integer> times = new TreeSet<>();
    private final List<List<Call>> looks = new ArrayList<>();
    private int asked = 0;

    private Aftermath() {
    }

    /** What a call changed, told by the first look that shows it; null if it changed nothing. */
    static String ofOneCall(int seats, List<Call> run, Call call) {
        List<Call> longer = new ArrayList<>(run);
        longer.add(call);
        Aftermath aftermath = new Aftermath();
        longer.forEach(aftermath::note);
        aftermath.tellAll(PROMISED_CALLS - longer.size());
        aftermath.tryTimes();
        aftermath.tryPersons();
        for (List<Call> look : aftermath.looks) {
            String without = seen(seats, run, look);
            String with = seen(seats, longer, look);
            if (!with.equals(without)) {
                return look + " answers " + with + " behind it, " + without + " without it";
            }
        }
        return null;
    }

    private void note(Call call) {
        int[] arguments = call.arguments();
        if (OF_A_PERSON.contains(call.name())) {
            addWithin(persons, arguments[0], 59);
        }
        if (OF_A_UNIT.contains(call.name())) {
            addWithin(units, arguments[0], 79);
        }
        if (AT_A_TIME.contains(call.name())) {
            addWithin(times, arguments[arguments.length - 1], LAST_TIME);
        }
        if (call.name().equals("ask")) {
            addWithin(units, arguments[1], 79);
            asked++;
        }
    }

    private static void addWithin(Set<Integer> numbers, int number, int most) {
        if (number >= 0 && number <= most) {
            numbers.add(number);
        }
    }

    private void tellAll(int callsLeft) {
        if (callsLeft < 1) {
            throw new AssertionError("no call is left to look at the room with");
        }
        List<Call> all = new ArrayList<>();
        for (int unit = 0; unit < 80; unit++) {
            addEach(all, "unit", unit, 5);
        }
        for (int person = 0; person < 60; person++) {
            addEach(all, "person", person, 5);
        }
        for (int number = 0; number <= asked; number++) {
            addEach(all, "request", number, 6);
        }
        for (int unit : units) {
            addEach(all, "waits", unit, asked + 1);
        }
        for (int from = 0; from < all.size(); from += callsLeft) {
            looks.add(all.subList(from, Math.min(all.size(), from + callsLeft)));
        }
    }

    private static void addEach(List<Call> calls, String name, int number, int bound) {
        for (int what = 0; what < bound; what++) {
            calls.add(new Call(name, number, what));
        }
    }

    private void tryTimes() {
        for (int time : times) {
            looks.add(List.of(new Call("close", time - 1)));
            looks.add(List.of(new Call("close", time)));
            for (int unit : units) {
                looks.add(List.of(new Call("copy", unit, 1, time)));
            }
        }
    }

    /** Asks for restricted units show a right, asks for others the limit, and a copy the pages. */
    private void tryPersons() {
        for (int person : persons) {
            List<Call> look = new ArrayList<>(List.of(new Call("close", LAST_TIME), new Call("come", person)));
            for (int restriction = 1; restriction <= 3; restriction++) {
                look.add(new Call("restrict", 70, restriction));
                look.add(new Call("ask", person, 70, LAST_TIME));
            }
            for (int unit = 0; unit < 10; unit++) {
                look.add(new Call("mend", unit));
                look.add(new Call("restrict", unit, 0));
                look.add(new Call("ask", person, unit, LAST_TIME));
            }
            look.add(new Call("fetch", 0, LAST_TIME));
            look.add(new Call("handOut", 0, LAST_TIME));
            look.add(new Call("copy", 0, 1, LAST_TIME));
            looks.add(look);
        }
    }

    private static String seen(int seats, List<Call> run, List<Call> look) {
        if (run.size() + look.size() > PROMISED_CALLS) {
            throw new AssertionError("too many calls for one room: " + run.size() + " and " + look.size());
        }
        ReadingRoom room = new ReadingRoom(seats);
        run.forEach(call -> call.answer(room));
        StringBuilder answers = new StringBuilder();
        look.forEach(call -> answers.append(Call.tell(call.answer(room))).append(' '));
        return answers.toString();
    }
}
