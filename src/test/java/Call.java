import java.lang.reflect.InvocationTargetException;
import java.lang.reflect.Method;
import java.util.Arrays;
import java.util.HashMap;
import java.util.Map;
import java.util.NoSuchElementException;
import java.util.stream.Collectors;

/** One call of the face, by its name, so that a run of calls can be told and made again. */
record Call(String name, int... arguments) {
    /** Stands for an answer where the call throws NoSuchElementException. */
    static final int MISSING = Integer.MIN_VALUE;

    private static final Map<String, Method> METHODS = new HashMap<>();

    static {
        for (Method method : ReadingRoom.class.getMethods()) {
            METHODS.put(method.getName(), method);
        }
    }

    int answer(ReadingRoom room) {
        Object[] boxed = Arrays.stream(arguments).boxed().toArray();
        try {
            return (Integer) METHODS.get(name).invoke(room, boxed);
        } catch (InvocationTargetException e) {
            if (e.getCause().getClass() == NoSuchElementException.class) {
                return MISSING;
            }
            throw new AssertionError(this + " threw", e.getCause());
        } catch (IllegalAccessException e) {
            throw new AssertionError(e);
        }
    }

    static String tell(int answer) {
        return answer == MISSING ? "throws.NoSuchElementException" : Integer.toString(answer);
    }

    @Override
    public String toString() {
        return Arrays.stream(arguments).mapToObj(Integer::toString).collect(Collectors.joining(", ", name + "(", ")"));
    }
}
