import java.lang.reflect.Array;
import java.lang.reflect.Constructor;
import java.lang.reflect.Field;
import java.lang.reflect.Method;
import java.lang.reflect.Modifier;
import java.util.ArrayList;
import java.util.Arrays;
import java.util.IdentityHashMap;
import java.util.List;
import java.util.Map;
import java.util.TreeSet;

/** The public face of the class as the document has it, and the room that an object takes. */
public final class FaceTest {
    private static final String[] FACE = {
        "int feed(int, int, int, int, int) IllegalStateException",
        "int end(int) IllegalArgumentException",
        "int read()",
        "int faultAt()",
        "void begin(int, int)",
        "int question(int, int) IllegalArgumentException IllegalStateException",
        "int record(int, int, int, int) NoSuchElementException IllegalArgumentException IllegalStateException",
        "int write(int) IllegalArgumentException UnsupportedOperationException",
        "int back(int, int) IndexOutOfBoundsException",
        "int written(int) IndexOutOfBoundsException",
        "int header(int) IllegalArgumentException",
        "int told(int, int, int) NoSuchElementException IllegalArgumentException",
        "int byteOf(int, int, int) NoSuchElementException IndexOutOfBoundsException",
        "boolean same(int, int, int, int) NoSuchElementException",
        "int order(int, int, int, int) NoSuchElementException",
        "int count(int)",
    };

    private FaceTest() {
    }

    public static void main(String[] args) throws IllegalAccessException {
        face();
        room();
        Bench.finish();
    }

    private static String told(Method method) {
        List<String> takes = new ArrayList<>();
        for (Class<?> type : method.getParameterTypes()) {
            takes.add(type.getSimpleName());
        }
        StringBuilder text = new StringBuilder(method.getReturnType().getSimpleName());
        text.append(' ').append(method.getName()).append('(').append(String.join(", ", takes)).append(')');
        for (Class<?> type : method.getExceptionTypes()) {
            text.append(' ').append(type.getSimpleName());
        }
        return text.toString();
    }

    private static void face() {
        TreeSet<String> due = new TreeSet<>(Arrays.asList(FACE));
        TreeSet<String> found = new TreeSet<>();
        TreeSet<String> names = new TreeSet<>();
        for (Method method : WireMessages.class.getDeclaredMethods()) {
            if (Modifier.isPublic(method.getModifiers())) {
                found.add(told(method));
                names.add(method.getName());
            }
        }
        if (!found.equals(due)) {
            Bench.tell("the face is " + found + ", due is " + due);
        }
        if (!Modifier.isFinal(WireMessages.class.getModifiers())) {
            Bench.tell("the class is not final");
        }
        for (Method method : WireMessages.class.getDeclaredMethods()) {
            boolean isPrivate = Modifier.isPrivate(method.getModifiers());
            boolean isPublic = Modifier.isPublic(method.getModifiers());
            if (!isPrivate && !isPublic || isPrivate && names.contains(method.getName())) {
                Bench.tell("beside the face there is " + method);
            }
        }
        for (Field field : WireMessages.class.getDeclaredFields()) {
            if (!Modifier.isPrivate(field.getModifiers())) {
                Bench.tell("beside the face there is " + field);
            }
        }
        Constructor<?>[] constructors = WireMessages.class.getDeclaredConstructors();
        Bench.due("constructors", constructors.length, 1);
        Bench.due("what it takes", constructors[0].getParameterCount(), 0);
    }

    /** Objects and arrays, then their fields and elements. */
    private static long[] roomOf(Object start) throws IllegalAccessException {
        Map<Object, Boolean> seen = new IdentityHashMap<>();
        List<Object> left = new ArrayList<>(List.of(start));
        long[] room = {0, 0};
        while (!left.isEmpty()) {
            Object one = left.remove(left.size() - 1);
            if (one == null || seen.put(one, true) != null) {
                continue;
            }
            room[0]++;
            if (one.getClass().isArray()) {
                room[1] += Array.getLength(one);
                if (one instanceof Object[] row) {
                    left.addAll(Arrays.asList(row));
                }
                continue;
            }
            for (Field field : one.getClass().getDeclaredFields()) {
                if (!Modifier.isStatic(field.getModifiers())) {
                    field.setAccessible(true);
                    room[1]++;
                    if (!field.getType().isPrimitive()) {
                        left.add(field.get(one));
                    }
                }
            }
        }
        return room;
    }

    private static void room() throws IllegalAccessException {
        WireMessages x = new WireMessages();
        long[] before = roomOf(x);
        if (before[0] > 100 || before[1] > 300_000) {
            Bench.tell("a new object takes " + Arrays.toString(before));
        }
        for (int k = 0; k < 50; k++) {
            Bench.ask(x, Bench.name("a" + k + ".b"), 1, 1);
            Bench.add(x, 1, Bench.name("a" + k + ".b"), 1, Bench.bytes(1, 2, 3, 4));
            x.write(65_535);
            x.back(-1, 0);
            x.read();
        }
        if (!Arrays.equals(before, roomOf(x))) {
            Bench.tell("an object grows by its calls: " + Arrays.toString(roomOf(x)));
        }
    }
}
