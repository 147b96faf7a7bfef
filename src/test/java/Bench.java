import java.io.ByteArrayOutputStream;
import java.nio.charset.StandardCharsets;
import java.util.Arrays;
import java.util.Random;

/** What the tests share: rows of bytes, feeding them, and telling what is not as due. */
abstract class Bench {
    static final byte[] ROOT = bytes(0);
    private static final int MOST_TOLD = 100;
    private static int wrong = 0;
    private static String sentence = "";

    interface Call {
        long answer();
    }

    Bench() {
    }

    /** The document's sentence that the next answers are due by; it is told with each wrong one. */
    static void by(String words) {
        sentence = words;
    }

    static void due(String what, long got, long want) {
        if (got != want) {
            tell(what + " answered " + got + ", due is " + want);
        }
    }

    static void dueBytes(String what, byte[] got, byte[] want) {
        if (!Arrays.equals(got, want)) {
            tell(what + " answered " + Arrays.toString(got) + ", due is " + Arrays.toString(want));
        }
    }

    static void dueThrow(String what, Class<? extends RuntimeException> want, Call call) {
        try {
            tell(what + " answered " + call.answer() + ", due is " + want.getSimpleName());
        } catch (RuntimeException e) {
            if (e.getClass() != want) {
                tell(what + " threw " + e + ", due is " + want.getSimpleName());
            }
        }
    }

    static void tell(String what) {
        wrong++;
        if (wrong > MOST_TOLD) {
            return;
        }
        System.out.println((sentence.isEmpty() ? "" : "[" + sentence + "] ") + what);
    }

    static void finish() {
        if (wrong > 0) {
            System.out.println(wrong + " answers are not as due");
            System.exit(1);
        }
    }

    static byte[] bytes(int... values) {
        byte[] row = new byte[values.length];
        for (int i = 0; i < row.length; i++) {
            row[i] = (byte) values[i];
        }
        return row;
    }

    static byte[] all(byte[]... parts) {
        ByteArrayOutputStream sum = new ByteArrayOutputStream();
        for (byte[] part : parts) {
            sum.writeBytes(part);
        }
        return sum.toByteArray();
    }

    static byte[] filled(int length, int value) {
        byte[] row = new byte[length];
        Arrays.fill(row, (byte) value);
        return row;
    }

    static byte[] text(String text) {
        return text.getBytes(StandardCharsets.ISO_8859_1);
    }

    static byte[] label(String text) {
        return all(bytes(text.length()), text(text));
    }

    /** Labels without the 0 at the end. */
    static byte[] labels(String dotted) {
        byte[] sum = {};
        for (String part : dotted.split("\\.")) {
            sum = part.isEmpty() ? sum : all(sum, label(part));
        }
        return sum;
    }

    static byte[] name(String dotted) {
        return all(labels(dotted), bytes(0));
    }

    /** A name of so many bytes, 3 or more of them. */
    static byte[] nameOf(int length, char with) {
        byte[] sum = {};
        int left = length - 1;
        while (left > 0) {
            int size = left > 64 ? Math.min(63, left - 3) : left - 1;
            sum = all(sum, bytes(size), filled(size, with));
            left -= size + 1;
        }
        return all(sum, bytes(0));
    }

    static byte[] two(int value) {
        return bytes(value >> 8, value);
    }

    static byte[] four(int value) {
        return bytes(value >> 24, value >> 16, value >> 8, value);
    }

    static byte[] pointer(int place) {
        return two(0xC000 | place);
    }

    static byte[] head(int id, int flags, int questions, int answers, int authorities, int additionals) {
        return all(two(id), two(flags), two(questions), two(answers), two(authorities), two(additionals));
    }

    static byte[] asked(byte[] name, int type, int kind) {
        return all(name, two(type), two(kind));
    }

    static byte[] entry(byte[] name, int type, int kind, int time, byte[] data) {
        return all(name, two(type), two(kind), four(time), two(data.length), data);
    }

    /**
     * A message with data whose bytes make, from each of many places, another name with an end of its own: the owners
     * of its records point at them, so that it is some ten times as long when it is written again.
     */
    static byte[] growing(int segments, int names) {
        Random random = new Random(11);
        byte[] blob = {};
        for (int k = 0; k < segments; k++) {
            for (int i = 0; i < 180; i++) {
                blob = all(blob, bytes(45 + random.nextInt(19)));
            }
            blob = all(blob, filled(64, 0));
        }
        byte[] row = entry(bytes(0), 99, 1, 1, blob);
        for (int k = 0; k < names; k++) {
            int place = 23 + k % segments * 244 + k / segments;
            row = all(row, entry(pointer(place), 99, 1, 1, bytes()));
        }
        return all(head(0, 0, 0, names + 1, 0, 0), row);
    }

    /**
     * A message whose records' names are pointers into data, each to another name of 249 bytes that shares no end with
     * the others: written again it has {@link #wideLength} bytes. The first byte is 0, so it is also the root and data.
     */
    static byte[] wide(int names, int lastData) {
        byte[] blob = manyNames((names + 30) / 31);
        byte[] row = new byte[names * 12];
        for (int k = 0; k < names; k++) {
            byte[] one = entry(pointer(23 + k / 31 * 310 + k % 31 * 2), 99, 1, 1, bytes());
            System.arraycopy(one, 0, row, 12 * k, 12);
        }
        return all(head(0, 0, 0, names + 2, 0, 0), entry(ROOT, 99, 1, 1, blob), row,
                entry(ROOT, 99, 1, 1, filled(lastData, 1)));
    }

    static int wideLength(int names, int lastData) {
        return 12 + 11 + (names + 30) / 31 * 310 + 259 * names + 11 + lastData;
    }

    /** Blocks of 310 bytes: from each of the first 31 even places on there is a name; odd places make them differ. */
    private static byte[] manyNames(int blocks) {
        byte[] row = new byte[blocks * 310];
        new Random(7).nextBytes(row);
        for (int i = 0; i < row.length; i += 2) {
            row[i] = (byte) (i % 310 < 248 ? 61 : 0);
        }
        return row;
    }

    /** Reads these bytes with a new object: the fault and its place that are due. */
    static WireMessages readDue(String what, byte[] row, int fault, int place) {
        WireMessages x = new WireMessages();
        lay(x, row);
        due(what + ": read()", x.read(), fault);
        due(what + ": faultAt()", x.faultAt(), place);
        due(what + ": the tape", x.count(0), 0);
        return x;
    }

    static WireMessages readGood(String what, byte[] row) {
        return readDue(what, row, 0, -1);
    }

    /** Makes the tape, empty before, these bytes. */
    static void lay(WireMessages x, byte[] row) {
        for (int i = 0; i < row.length; i += 20) {
            byte[] piece = Arrays.copyOf(Arrays.copyOfRange(row, i, Math.min(i + 20, row.length)), 20);
            x.feed(number(piece, 0), number(piece, 4), number(piece, 8), number(piece, 12), number(piece, 16));
        }
        x.end(row.length);
    }

    private static int number(byte[] row, int at) {
        return (row[at] & 255) << 24 | (row[at + 1] & 255) << 16 | (row[at + 2] & 255) << 8 | row[at + 3] & 255;
    }

    static int ask(WireMessages x, byte[] name, int type, int kind) {
        lay(x, name);
        return x.question(type, kind);
    }

    static int add(WireMessages x, int section, byte[] name, int type, byte[] data) {
        lay(x, all(name, data));
        return x.record(section, type, 1, 60);
    }

    static byte[] message(WireMessages x) {
        byte[] row = new byte[x.count(1)];
        for (int i = 0; i < row.length; i++) {
            row[i] = (byte) x.written(i);
        }
        return row;
    }

    static byte[] nameAndData(WireMessages x, int section, int k) {
        int length = x.told(section, k, 2) + (section == 0 ? 0 : x.told(section, k, 3));
        byte[] row = new byte[length];
        for (int i = 0; i < length; i++) {
            row[i] = (byte) x.byteOf(section, k, i);
        }
        return row;
    }
}
