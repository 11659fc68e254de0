import java.util.NoSuchElementException;
import java.util.Random;

/** Random runs of 512 calls: every answer is the one that a second, plainer room gives. */
public final class RandomRunsTest {
    private static final int RUNS = 1500;
    private static final int CALLS = 512;
    private static final String[] CHANGING = {"come", "come", "come", "leave", "ask", "ask", "ask", "ask", "ask", "fetch",
        "fetch", "fetch", "handOut", "handOut", "handOut", "back", "back", "look", "look", "mend", "restrict",
        "right", "limit", "copy", "copy"};
    private static final String[] TELLING = {"unit", "person", "request", "request", "waits"};
    private static final int[] WILD = {-1, -2, -10, 4, 5, 6, 9, 10, 20, 21, 59, 60, 61, 79, 80, 81, 299, 300, 500, 501,
        86399, 86400, 1000000000, 1000000001, Integer.MAX_VALUE, Integer.MIN_VALUE};

    private final Random random;
    private final int persons;
    private final int units;
    private final int seats;
    private int t = 0;

    private RandomRunsTest(long seed) {
        random = new Random(seed);
        persons = 1 + random.nextInt(random.nextBoolean() ? 5 : 60);
        units = 1 + random.nextInt(random.nextBoolean() ? 4 : 80);
        seats = random.nextInt(4) == 0 ? random.nextInt(30) - 5 : 1 + random.nextInt(6);
    }

    public static void main(String[] args) {
        for (int seed = 0; seed < RUNS; seed++) {
            new RandomRunsTest(seed).run("random run " + seed);
        }
        Check.end();
    }

    private void run(String title) {
        Check x = new Check(title, seats);
        PlainRoom plain = new PlainRoom(seats);
        for (int call = 0; call < CALLS; call++) {
            String name = name();
            compare(x, plain, name, arguments(name));
        }
    }

    private static void compare(Check x, PlainRoom plain, String name, int[] arguments) {
        x.due(wanted(plain, name, arguments), name, arguments);
    }

    private static int wanted(PlainRoom plain, String name, int[] arguments) {
        try {
            return plain.answer(name, arguments);
        } catch (NoSuchElementException e) {
            return Call.MISSING;
        }
    }

    private String name() {
        if (random.nextInt(150) == 0) {
            return "close";
        }
        return random.nextInt(3) == 0 ? pick(TELLING) : pick(CHANGING);
    }

    private int[] arguments(String name) {
        switch (name) {
            case "come":
            case "leave":
                return new int[] {person()};
            case "ask":
                return new int[] {person(), unit(), time()};
            case "fetch":
            case "handOut":
            case "back":
                return new int[] {unit(), time()};
            case "look":
                return new int[] {unit(), small(2 + random.nextInt(3))};
            case "mend":
                return new int[] {unit()};
            case "restrict":
                return new int[] {unit(), small(2 + random.nextInt(3))};
            case "right":
                return new int[] {person(), small(4)};
            case "limit":
                return new int[] {person(), small(10), small(random.nextBoolean() ? 30 : 501)};
            case "copy":
                return new int[] {unit(), 1 + small(random.nextBoolean() ? 9 : 500), time()};
            case "close":
                return new int[] {time()};
            case "unit":
                return new int[] {unit(), small(5)};
            case "person":
                return new int[] {person(), small(5)};
            case "request":
                return new int[] {small(random.nextBoolean() ? 8 : 60), small(6)};
            case "waits":
                return new int[] {unit(), small(3)};
            default:
                throw new AssertionError(name);
        }
    }

    private int person() {
        return small(persons);
    }

    private int unit() {
        return small(units);
    }

    private int time() {
        int kind = random.nextInt(40);
        if (kind == 0) {
            return wild();
        }
        if (kind == 1) {
            return t - 1 - random.nextInt(30);
        }
        // a time far ahead that is refused for another reason must leave the nearer ones possible
        int ahead = kind == 2 ? random.nextInt(100000) : random.nextInt(3);
        if (random.nextBoolean()) {
            t = Math.min(1000000000, t + ahead);
            return t;
        }
        return t + ahead;
    }

    private int small(int bound) {
        return random.nextInt(50) == 0 ? wild() : random.nextInt(bound);
    }

    private int wild() {
        return random.nextInt(4) == 0 ? random.nextInt() : WILD[random.nextInt(WILD.length)];
    }

    private String pick(String[] names) {
        return names[random.nextInt(names.length)];
    }
}
