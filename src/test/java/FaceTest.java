import java.lang.reflect.Constructor;
import java.lang.reflect.Field;
import java.lang.reflect.Method;
import java.lang.reflect.Modifier;
import java.util.Arrays;
import java.util.TreeSet;

/** The public face is the document's, and nothing else can be seen from outside. */
public final class FaceTest {
    public static void main(String[] args) {
        constants();
        members();
        Check.end();
    }

    private static void constants() {
        Check.due("NONE", ReadingRoom.NONE, -1);
        Check.due("RANGE", ReadingRoom.RANGE, -2);
        Check.due("STATE", ReadingRoom.STATE, -3);
        Check.due("FULL", ReadingRoom.FULL, -4);
        Check.due("RIGHT", ReadingRoom.RIGHT, -5);
    }

    private static void members() {
        TreeSet<String> seen = new TreeSet<>();
        for (Field field : ReadingRoom.class.getDeclaredFields()) {
            if (!Modifier.isPrivate(field.getModifiers())) {
                seen.add(field.toString());
            }
        }
        for (Constructor<?> constructor : ReadingRoom.class.getDeclaredConstructors()) {
            if (!Modifier.isPrivate(constructor.getModifiers())) {
                seen.add(constructor.toString());
            }
        }
        for (Method method : ReadingRoom.class.getDeclaredMethods()) {
            if (!Modifier.isPrivate(method.getModifiers())) {
                seen.add(method.toString());
            }
        }
        Check.due("the face", seen, new TreeSet<>(Arrays.asList(
                constant("NONE"), constant("RANGE"), constant("STATE"), constant("FULL"), constant("RIGHT"),
                "public ReadingRoom(int)",
                call("come(int)"), call("leave(int)"), call("ask(int,int,int)"), call("fetch(int,int)"),
                call("handOut(int,int)"), call("back(int,int)"), call("look(int,int)"), call("mend(int)"),
                call("restrict(int,int)"), call("right(int,int)"), call("limit(int,int,int)"),
                call("copy(int,int,int)"), call("close(int)"), call("unit(int,int)"), call("person(int,int)"),
                call("request(int,int) throws java.util.NoSuchElementException"),
                call("waits(int,int) throws java.util.NoSuchElementException"))));
        Check.due("final", Modifier.isFinal(ReadingRoom.class.getModifiers()), true);
    }

    private static String constant(String name) {
        return "public static final int ReadingRoom." + name;
    }

    private static String call(String signature) {
        return "public int ReadingRoom." + signature;
    }
}
