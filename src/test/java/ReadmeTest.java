import java.io.IOException;
import java.lang.reflect.Method;
import java.lang.reflect.Modifier;
import java.nio.file.Files;
import java.nio.file.Path;

/** README.md: its example stands here, line by line, and answers what it says; every call of the face is told of. */
public final class ReadmeTest extends Bench {
    private static final Path README = Path.of("README.md");
    private static final Path HERE = Path.of("src/test/java/ReadmeTest.java");

    private ReadmeTest() {
    }

    public static void main(String[] args) throws IOException {
        String readme = Files.readString(README);
        example();
        exampleIsThere(readme);
        everyCall(readme);
        finish();
    }

    private static void example() {
        by("the example of README.md");
        WireMessages x = new WireMessages();
        x.begin(0x1234, 0x0100);
        x.feed(0x03777777, 0x07657861, 0x6D706C65, 0x03636F6D, 0);
        x.end(17);
        x.question(1, 1);
        x.feed(0x03777777, 0x07657861, 0x6D706C65, 0x03636F6D, 0x00C00002);
        x.feed(0x01000000, 0, 0, 0, 0);
        x.end(21);
        x.record(1, 1, 1, 3600);
        int length = x.write(512);
        int first = x.written(0);
        int pointers = x.count(2);
        x.back(-1, 0);
        int fault = x.read();
        int records = x.header(3);
        int time = x.told(1, 0, 4);
        int last = x.byteOf(1, 0, 20);
        boolean same = x.same(0, 0, 1, 0);
        due("length", length, 49);
        due("first", first, 0x12);
        due("pointers", pointers, 1);
        due("fault", fault, 0);
        due("records", records, 1);
        due("time", time, 3600);
        due("last", last, 1);
        due("same", same ? 1 : 0, 1);
        dueBytes("the name", nameAndData(x, 0, 0), name("www.example.com"));
        dueBytes("the record", nameAndData(x, 1, 0), all(name("www.example.com"), bytes(192, 0, 2, 1)));
    }

    private static void exampleIsThere(String readme) throws IOException {
        by("the example of README.md");
        String here = Files.readString(HERE);
        String[] parts = readme.split("```(java)?\n");
        due("blocks of code", parts.length, 3);
        for (String line : parts[1].split("\n")) {
            String code = line.replaceAll("//.*", "").trim();
            if (!code.isEmpty() && !here.contains("\n        " + code + "\n")) {
                tell("the test lacks a line of it: " + code);
            }
        }
    }

    private static void everyCall(String readme) {
        by("README.md says how to use the class");
        for (Method method : WireMessages.class.getDeclaredMethods()) {
            if (Modifier.isPublic(method.getModifiers()) && !readme.contains("\n| `" + method.getName() + "(")) {
                tell("nothing is said of " + method.getName());
            }
        }
    }
}
