import java.util.ArrayList;
import java.util.Collections;
import java.util.HashMap;
import java.util.List;
import java.util.Map;
import java.util.NoSuchElementException;
import java.util.stream.Collectors;

/** A second room, written from the document with objects and lists, to compare the first one with. */
final class PlainRoom {
    private enum State { OPEN, FETCHED, HANDED_OUT, DONE, GONE }

    private enum Place { STORE, WAY, PERSON, DESK }

    private static final class Reader {
        int right = 0;
        int limit = 3;
        int pages = 20;
        int latestDay = -1;
        final Map<Integer, Integer> copied = new HashMap<>();
        final List<Request> requests = new ArrayList<>();

        List<Request> running() {
            return requests.stream().filter(Request::runs).collect(Collectors.toList());
        }

        long has() {
            return requests.stream().filter(r -> r.state == State.HANDED_OUT).count();
        }
    }

    private static final class Item {
        Place place = Place.STORE;
        int condition = 0;
        int restriction = 0;
        Request request = null;
        final List<Request> requests = new ArrayList<>();

        List<Request> open() {
            return requests.stream().filter(r -> r.state == State.OPEN).collect(Collectors.toList());
        }

        int fetchFor(Request next) {
            place = Place.WAY;
            request = next;
            next.state = State.FETCHED;
            return next.number;
        }

        void store() {
            place = Place.STORE;
            request = null;
        }
    }

    private static final class Request {
        int number;
        int person;
        int unit;
        int asked;
        int handedOut = -1;
        int ended = -1;
        State state = State.OPEN;

        boolean runs() {
            return state != State.DONE && state != State.GONE;
        }
    }

    private final List<Integer> chairs;
    private final List<Integer> row = new ArrayList<>();
    private final List<Reader> readers = new ArrayList<>();
    private final List<Item> items = new ArrayList<>();
    private final List<Request> requests = new ArrayList<>();
    private int latest = 0;

    PlainRoom(int seats) {
        chairs = new ArrayList<>(Collections.nCopies(seats < 0 ? 0 : seats > 20 ? 20 : seats, null));
        for (int i = 0; i < 60; i++) {
            readers.add(new Reader());
        }
        for (int i = 0; i < 80; i++) {
            items.add(new Item());
        }
    }

    /** What the call of that name answers. */
    int answer(String name, int[] a) {
        switch (name) {
            case "come": return come(a[0]);
            case "leave": return leave(a[0]);
            case "ask": return ask(a[0], a[1], a[2]);
            case "fetch": return fetch(a[0], a[1]);
            case "handOut": return handOut(a[0], a[1]);
            case "back": return back(a[0], a[1]);
            case "look": return look(a[0], a[1]);
            case "mend": return mend(a[0]);
            case "restrict": return restrict(a[0], a[1]);
            case "right": return right(a[0], a[1]);
            case "limit": return limit(a[0], a[1], a[2]);
            case "copy": return copy(a[0], a[1], a[2]);
            case "close": return close(a[0]);
            case "unit": return unit(a[0], a[1]);
            case "person": return person(a[0], a[1]);
            case "request": return request(a[0], a[1]);
            case "waits": return waits(a[0], a[1]);
            default: throw new AssertionError(name);
        }
    }

    private int come(int person) {
        if (noPerson(person)) {
            return -1;
        }
        if (chairs.contains(person) || row.contains(person)) {
            return -3;
        }
        int chair = chairs.indexOf(null);
        if (chair >= 0) {
            chairs.set(chair, person);
            return chair;
        }
        row.add(person);
        return -10 - row.indexOf(person);
    }

    private int leave(int person) {
        if (noPerson(person)) {
            return -1;
        }
        if (readers.get(person).has() > 0) {
            return -3;
        }
        if (row.remove((Integer) person)) {
            return 100;
        }
        int chair = chairs.indexOf(person);
        if (chair < 0) {
            return -3;
        }
        chairs.set(chair, row.isEmpty() ? null : row.remove(0));
        return chairs.get(chair) == null ? 100 : chairs.get(chair);
    }

    private int ask(int person, int unit, int t) {
        if (noPerson(person) || noUnit(unit)) {
            return -1;
        }
        if (noTime(t)) {
            return -2;
        }
        Reader reader = readers.get(person);
        if (!chairs.contains(person) || reader.running().stream().anyMatch(r -> r.unit == unit)) {
            return -3;
        }
        if (reader.right < items.get(unit).restriction) {
            return -5;
        }
        if (reader.running().size() >= reader.limit || requests.size() == 300) {
            return -4;
        }
        latest = t;
        Request r = new Request();
        r.number = requests.size();
        r.person = person;
        r.unit = unit;
        r.asked = t;
        requests.add(r);
        reader.requests.add(r);
        items.get(unit).requests.add(r);
        return r.number;
    }

    private int fetch(int unit, int t) {
        if (noUnit(unit)) {
            return -1;
        }
        if (noTime(t)) {
            return -2;
        }
        Item item = items.get(unit);
        if (item.place != Place.STORE || item.open().isEmpty() || item.condition == 3) {
            return -3;
        }
        latest = t;
        return item.fetchFor(item.open().get(0));
    }

    private int handOut(int unit, int t) {
        if (noUnit(unit)) {
            return -1;
        }
        if (noTime(t)) {
            return -2;
        }
        Item item = items.get(unit);
        if (item.place != Place.WAY || !chairs.contains(item.request.person)) {
            return -3;
        }
        if (readers.get(item.request.person).right < item.restriction) {
            return -5;
        }
        latest = t;
        item.place = Place.PERSON;
        item.request.state = State.HANDED_OUT;
        item.request.handedOut = t;
        return item.request.person;
    }

    private int back(int unit, int t) {
        if (noUnit(unit)) {
            return -1;
        }
        if (noTime(t)) {
            return -2;
        }
        Item item = items.get(unit);
        if (item.place != Place.PERSON) {
            return -3;
        }
        latest = t;
        item.place = Place.DESK;
        item.request.state = State.DONE;
        item.request.ended = t;
        return item.request.number;
    }

    private int look(int unit, int condition) {
        if (noUnit(unit)) {
            return -1;
        }
        Item item = items.get(unit);
        if (condition < 0 || condition > 3 || condition < item.condition) {
            return -2;
        }
        if (item.place != Place.DESK) {
            return -3;
        }
        item.condition = condition;
        if (condition < 2 && !item.open().isEmpty()) {
            return item.fetchFor(item.open().get(0));
        }
        item.store();
        return 1000;
    }

    private int mend(int unit) {
        if (noUnit(unit)) {
            return -1;
        }
        if (items.get(unit).place != Place.STORE) {
            return -3;
        }
        items.get(unit).condition = 0;
        return 1;
    }

    private int restrict(int unit, int restriction) {
        if (noUnit(unit)) {
            return -1;
        }
        if (restriction < 0 || restriction > 3) {
            return -2;
        }
        items.get(unit).restriction = restriction;
        int gone = 0;
        for (Request r : items.get(unit).open()) {
            if (readers.get(r.person).right < restriction) {
                r.state = State.GONE;
                gone++;
            }
        }
        return gone;
    }

    private int right(int person, int right) {
        if (noPerson(person)) {
            return -1;
        }
        if (right < 0 || right > 3) {
            return -2;
        }
        readers.get(person).right = right;
        return 1;
    }

    private int limit(int person, int limit, int pages) {
        if (noPerson(person)) {
            return -1;
        }
        if (limit < 0 || limit > 9 || pages < 0 || pages > 500) {
            return -2;
        }
        readers.get(person).limit = limit;
        readers.get(person).pages = pages;
        return 1;
    }

    private int copy(int unit, int pages, int t) {
        if (noUnit(unit)) {
            return -1;
        }
        if (pages < 1 || pages > 500 || noTime(t)) {
            return -2;
        }
        Item item = items.get(unit);
        if (item.place != Place.PERSON || item.condition > 1) {
            return -3;
        }
        Reader reader = readers.get(item.request.person);
        int sum = reader.copied.getOrDefault(t / 86400, 0) + pages;
        if (sum > reader.pages) {
            return -4;
        }
        latest = t;
        reader.latestDay = t / 86400;
        reader.copied.put(reader.latestDay, sum);
        return reader.pages - sum;
    }

    private int close(int t) {
        if (noTime(t)) {
            return -2;
        }
        latest = t;
        for (Request r : requests) {
            if (r.state == State.HANDED_OUT) {
                r.ended = t;
            }
            r.state = r.state == State.OPEN ? State.GONE : r.runs() ? State.DONE : r.state;
        }
        int moved = 0;
        for (Item item : items) {
            moved += item.place == Place.STORE ? 0 : 1;
            item.store();
        }
        Collections.fill(chairs, null);
        row.clear();
        return moved;
    }

    private int unit(int unit, int what) {
        if (noUnit(unit) || what < 0 || what > 4) {
            return -1;
        }
        Item item = items.get(unit);
        return new int[] {item.place.ordinal(), item.condition, item.restriction,
            item.request == null ? -1 : item.request.number, item.open().size()}[what];
    }

    private int person(int person, int what) {
        if (noPerson(person) || what < 0 || what > 4) {
            return -1;
        }
        Reader reader = readers.get(person);
        return new int[] {chairs.indexOf(person), row.indexOf(person), reader.running().size(),
            (int) reader.has(), reader.copied.getOrDefault(reader.latestDay, 0)}[what];
    }

    private int request(int i, int what) {
        if (i < 0 || i >= requests.size() || what < 0 || what > 5) {
            throw new NoSuchElementException();
        }
        Request r = requests.get(i);
        return new int[] {r.person, r.unit, r.state.ordinal(), r.asked, r.handedOut, r.ended}[what];
    }

    private int waits(int unit, int i) {
        if (noUnit(unit) || i < 0 || i >= items.get(unit).open().size()) {
            throw new NoSuchElementException();
        }
        return items.get(unit).open().get(i).number;
    }

    private static boolean noPerson(int person) {
        return person < 0 || person >= 60;
    }

    private static boolean noUnit(int unit) {
        return unit < 0 || unit >= 80;
    }

    private boolean noTime(int t) {
        return t < latest || t > 1000000000;
    }
}
