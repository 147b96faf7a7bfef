import java.util.NoSuchElementException;

/** The promises 1 to 17, one by one: ordinary inputs, edges and wrong inputs. */
public final class PromiseTest {
    private static final byte[] FOUR = Bench.bytes(1, 2, 3, 4);

    private PromiseTest() {
    }

    public static void main(String[] args) {
        aNewObject();
        feed();
        end();
        read();
        faultAt();
        begin();
        question();
        questionThrows();
        record();
        recordThrows();
        recordData();
        write();
        back();
        written();
        header();
        told();
        byteOf();
        same();
        order();
        count();
        Bench.finish();
    }

    private static void aNewObject() {
        WireMessages x = new WireMessages();
        for (int what = 0; what <= 5; what++) {
            Bench.due("1: header(" + what + ")", x.header(what), 0);
        }
        for (int what = 0; what <= 3; what++) {
            Bench.due("1: count(" + what + ")", x.count(what), 0);
        }
        Bench.due("1: faultAt()", x.faultAt(), -1);
        Bench.dueThrow("1: written(0)", IndexOutOfBoundsException.class, () -> x.written(0));
        Bench.due("1: back(-1, 0)", x.back(-1, 0), 0);
        Bench.due("1: write(12)", x.write(12), 12);
        Bench.dueBytes("1: the empty message", Bench.message(x), new byte[12]);
    }

    private static void feed() {
        WireMessages x = new WireMessages();
        Bench.due("2: feed", x.feed(0x01020304, -1, 0x80000000, 0x7F00FF01, 5), 20);
        Bench.due("2: feed again", x.feed(6, 7, 8, 9, 0x0A0B0C0D), 40);
        Bench.due("2: count(0)", x.count(0), 40);
        byte[] fed = Bench.all(Bench.four(0x01020304), Bench.four(-1), Bench.four(0x80000000), Bench.four(0x7F00FF01),
                Bench.four(5), Bench.four(6), Bench.four(7), Bench.four(8), Bench.four(9), Bench.four(0x0A0B0C0D));
        WireMessages y = new WireMessages();
        y.feed(0, 0, 0, 0, 0);
        y.end(1);
        y.feed(0x01020304, -1, 0x80000000, 0x7F00FF01, 5);
        y.feed(6, 7, 8, 9, 0x0A0B0C0D);
        y.record(1, 99, 1, 1);
        Bench.dueBytes("2: the bytes fed", Bench.nameAndData(y, 1, 0), Bench.all(Bench.bytes(0), fed));
    }

    private static void end() {
        WireMessages x = new WireMessages();
        Bench.due("3: end(0) of nothing", x.end(0), 0);
        Bench.dueThrow("3: end(1) of nothing", IllegalArgumentException.class, () -> x.end(1));
        x.feed(1, 2, 3, 4, 5);
        Bench.dueThrow("3: end(21)", IllegalArgumentException.class, () -> x.end(21));
        Bench.dueThrow("3: end(-1)", IllegalArgumentException.class, () -> x.end(-1));
        Bench.due("3: after throws", x.count(0), 20);
        Bench.due("3: end(20)", x.end(20), 20);
        Bench.due("3: end(7)", x.end(7), 7);
        Bench.due("3: count(0)", x.count(0), 7);
        Bench.dueThrow("3: end(8)", IllegalArgumentException.class, () -> x.end(8));
        Bench.due("3: feed behind the end", x.feed(0, 0, 0, 0, 0), 27);
        Bench.due("3: end(0)", x.end(0), 0);
    }

    private static void read() {
        WireMessages x = new WireMessages();
        x.begin(1, 1);
        Bench.ask(x, Bench.name("old"), 1, 1);
        byte[] question = Bench.asked(Bench.name("a.b"), 255, 3);
        byte[] answer = Bench.entry(Bench.pointer(12), 15, 1, -2, Bench.all(Bench.two(7), Bench.label("mx"), Bench.pointer(14)));
        Bench.lay(x, Bench.all(Bench.head(0xFFFE, 0x8180, 1, 1, 0, 0), question, answer));
        Bench.due("4: read()", x.read(), 0);
        Bench.due("4: the tape is empty", x.count(0), 0);
        Bench.due("4: id", x.header(0), 0xFFFE);
        Bench.due("4: flags", x.header(1), 0x8180);
        Bench.due("4: questions", x.header(2), 1);
        Bench.due("4: answers", x.header(3), 1);
        Bench.due("4: class", x.told(0, 0, 1), 3);
        Bench.due("4: time", x.told(1, 0, 4), -2);
        Bench.dueBytes("4: the question", Bench.nameAndData(x, 0, 0), Bench.name("a.b"));
        Bench.dueBytes("4: the answer", Bench.nameAndData(x, 1, 0),
                Bench.all(Bench.name("a.b"), Bench.two(7), Bench.name("mx.b")));
        Bench.lay(x, Bench.all(Bench.head(5, 5, 1, 0, 0, 0), question, Bench.bytes(0)));
        Bench.due("4: read() of a fault", x.read(), 6);
        Bench.due("4: the tape is empty with a fault", x.count(0), 0);
        for (int what = 0; what <= 5; what++) {
            Bench.due("4: with a fault header(" + what + ")", x.header(what), 0);
        }
    }

    private static void faultAt() {
        WireMessages x = new WireMessages();
        Bench.due("5: before the first", x.faultAt(), -1);
        Bench.lay(x, Bench.all(Bench.head(0, 0, 0, 0, 0, 0), Bench.bytes(1, 2)));
        x.read();
        Bench.due("5: the first byte behind", x.faultAt(), 12);
        Bench.due("5: a bad question", thrown(() -> Bench.ask(x, Bench.bytes(70), 1, 1)), 1);
        x.end(0);
        Bench.due("5: is of the reading alone", x.faultAt(), 12);
        Bench.lay(x, new byte[12]);
        x.read();
        Bench.due("5: without one", x.faultAt(), -1);
    }

    private static int thrown(Bench.Call call) {
        try {
            call.answer();
            return 0;
        } catch (RuntimeException e) {
            return 1;
        }
    }

    private static void begin() {
        WireMessages x = new WireMessages();
        Bench.ask(x, Bench.name("a"), 1, 1);
        Bench.add(x, 2, Bench.name("a"), 1, FOUR);
        x.write(512);
        x.feed(1, 2, 3, 4, 5);
        x.begin(0x12345, -1);
        Bench.due("6: id", x.header(0), 0x2345);
        Bench.due("6: flags", x.header(1), 0xFFFF);
        Bench.due("6: questions", x.header(2), 0);
        Bench.due("6: authorities", x.header(4), 0);
        Bench.due("6: the tape stays", x.count(0), 20);
        Bench.due("6: what was written stays", x.count(1), 12 + 7 + 16);
    }

    private static void question() {
        WireMessages x = new WireMessages();
        Bench.due("7: the first", Bench.ask(x, Bench.name("www.Example"), 0x10001, -1), 1);
        Bench.due("7: the tape is empty", x.count(0), 0);
        Bench.due("7: the second", Bench.ask(x, Bench.name(""), 2, 3), 2);
        Bench.due("7: type", x.told(0, 0, 0), 1);
        Bench.due("7: class", x.told(0, 0, 1), 0xFFFF);
        Bench.due("7: the longest name", Bench.ask(x, Bench.nameOf(255, 'a'), 2, 3), 3);
        Bench.dueBytes("7: name", Bench.nameAndData(x, 0, 0), Bench.name("www.Example"));
        Bench.dueBytes("7: root", Bench.nameAndData(x, 0, 1), Bench.name(""));
        Bench.dueBytes("7: the longest", Bench.nameAndData(x, 0, 2), Bench.nameOf(255, 'a'));
    }

    private static void badQuestion(String what, byte[] row) {
        WireMessages x = new WireMessages();
        Bench.lay(x, row);
        Bench.dueThrow("7: " + what, IllegalArgumentException.class, () -> x.question(1, 1));
        Bench.due("7: tape after " + what, x.count(0), row.length);
        Bench.due("7: questions after " + what, x.header(2), 0);
    }

    private static void questionThrows() {
        badQuestion("no bytes", Bench.bytes());
        badQuestion("no end", Bench.labels("a.b"));
        badQuestion("half a label", Bench.bytes(3, 97, 98));
        badQuestion("bytes behind", Bench.bytes(1, 97, 0, 0));
        badQuestion("a length of 64", Bench.all(Bench.bytes(64), Bench.filled(64, 'a'), Bench.bytes(0)));
        badQuestion("a pointer", Bench.all(Bench.label("a"), Bench.pointer(0)));
        badQuestion("256 bytes", Bench.nameOf(256, 'a'));
        WireMessages x = new WireMessages();
        for (int k = 1; k <= 100; k++) {
            Bench.due("7: question " + k, Bench.ask(x, Bench.name(""), k, 1), k);
        }
        Bench.lay(x, Bench.name(""));
        Bench.dueThrow("7: the 101st", IllegalStateException.class, () -> x.question(1, 1));
        Bench.due("7: tape after the 101st", x.count(0), 1);
        Bench.due("7: questions after the 101st", x.header(2), 100);
        x.end(0);
        Bench.dueThrow("7: first the name", IllegalArgumentException.class, () -> x.question(1, 1));
        Bench.due("7: a record has still a place", Bench.add(x, 1, Bench.name(""), 1, FOUR), 1);
    }

    private static void record() {
        WireMessages x = new WireMessages();
        Bench.lay(x, Bench.all(Bench.name("b.c"), FOUR));
        Bench.due("8: the first of 3", x.record(3, 0x10001, 0x10002, -7), 1);
        Bench.due("8: the tape is empty", x.count(0), 0);
        Bench.due("8: the first of 1", Bench.add(x, 1, Bench.name("d"), 2, Bench.name("e")), 1);
        Bench.due("8: the second of 3", Bench.add(x, 3, Bench.name(""), 41, Bench.bytes()), 2);
        Bench.due("8: the first of 2", Bench.add(x, 2, Bench.name("f"), 10, Bench.bytes()), 1);
        Bench.due("8: type", x.told(3, 0, 0), 1);
        Bench.due("8: class", x.told(3, 0, 1), 2);
        Bench.due("8: time", x.told(3, 0, 4), -7);
        Bench.dueBytes("8: bytes", Bench.nameAndData(x, 3, 0), Bench.all(Bench.name("b.c"), FOUR));
        Bench.dueBytes("8: of 1", Bench.nameAndData(x, 1, 0), Bench.all(Bench.name("d"), Bench.name("e")));
        Bench.due("8: second of 3", x.told(3, 1, 0), 41);
        Bench.due("8: no data", x.told(2, 0, 3), 0);
    }

    private static void recordThrows() {
        WireMessages x = new WireMessages();
        x.feed(-1, 0, 0, 0, 0);
        for (int section : new int[] {-1, 0, 4, Integer.MAX_VALUE, Integer.MIN_VALUE}) {
            Bench.dueThrow("8: section " + section, NoSuchElementException.class, () -> x.record(section, 1, 1, 1));
        }
        Bench.dueThrow("8: no name", IllegalArgumentException.class, () -> x.record(1, 1, 1, 1));
        Bench.due("8: the tape after throws", x.count(0), 20);
        x.end(0);
        Bench.dueThrow("8: no bytes", IllegalArgumentException.class, () -> x.record(1, 99, 1, 1));
        Bench.due("8: nothing gathered", x.header(3), 0);
    }

    private static void dataDue(int type, String name, byte[] data, boolean good) {
        WireMessages x = new WireMessages();
        byte[] row = Bench.all(Bench.name(name), data);
        Bench.lay(x, row);
        String what = "8: type " + type + " under '" + name + "' with " + java.util.Arrays.toString(data);
        if (good) {
            Bench.due(what, x.record(2, type, 1, 1), 1);
            Bench.dueBytes(what, Bench.nameAndData(x, 2, 0), row);
        } else {
            Bench.dueThrow(what, IllegalArgumentException.class, () -> x.record(2, type, 1, 1));
            Bench.due(what + ": the tape", x.count(0), row.length);
            Bench.due(what + ": records", x.header(4), 0);
        }
    }

    private static void recordData() {
        for (int size = 0; size < 40; size++) {
            dataDue(1, "a", Bench.filled(size, 1), size == 4);
            dataDue(28, "a", Bench.filled(size, 0), size == 16);
            dataDue(99, "a", Bench.filled(size, 200), true);
            dataDue(41, "", Bench.filled(size, 200), true);
            dataDue(41, "a", Bench.filled(size, 200), false);
            dataDue(6, "a", Bench.all(Bench.name("b.c"), Bench.name("d"), Bench.filled(size, 9)), size == 20);
        }
        for (int type : new int[] {2, 5, 12}) {
            dataDue(type, "a", Bench.name("b.c"), true);
            dataDue(type, "a", Bench.name(""), true);
            dataDue(type, "a", Bench.bytes(), false);
            dataDue(type, "a", Bench.labels("b"), false);
            dataDue(type, "a", Bench.all(Bench.name("b"), Bench.bytes(0)), false);
            dataDue(type, "a", Bench.pointer(0), false);
            dataDue(type, "a", Bench.all(Bench.label("b"), Bench.pointer(0)), false);
            dataDue(type, "a", Bench.nameOf(255, 'x'), true);
            dataDue(type, "a", Bench.nameOf(256, 'x'), false);
            dataDue(type, "a", Bench.bytes(64, 0), false);
        }
        for (int size = 0; size < 9; size++) {
            dataDue(15, "a", Bench.all(Bench.filled(size, 0), Bench.bytes(2, 98, 99, 0)), size == 2);
            dataDue(33, "a", Bench.all(Bench.filled(size, 0), Bench.bytes(2, 98, 99, 0)), size == 6 || size == 3);
        }
        dataDue(15, "a", Bench.bytes(0, 0), false);
        dataDue(15, "a", Bench.bytes(0), false);
        dataDue(15, "a", Bench.bytes(255, 255, 0), true);
        dataDue(33, "a", Bench.bytes(255, 255, 1, 1, 7, 7, 0), true);
        dataDue(33, "a", Bench.bytes(255, 255, 1, 1, 7, 7), false);
        dataDue(33, "a", Bench.bytes(255, 255, 1, 1, 7), false);
        dataDue(33, "a", Bench.bytes(255, 255, 1, 1, 7, 7, 0, 0), false);
        dataDue(33, "a", Bench.bytes(255, 255, 1, 1, 7, 7, 192, 0), false);
        dataDue(16, "a", Bench.bytes(), false);
        dataDue(16, "a", Bench.bytes(0), true);
        dataDue(16, "a", Bench.bytes(0, 0), true);
        dataDue(16, "a", Bench.bytes(1), false);
        dataDue(16, "a", Bench.bytes(2, 200, 201, 1, 0), true);
        dataDue(16, "a", Bench.bytes(2, 200, 201, 2, 0), false);
        dataDue(16, "a", Bench.all(Bench.bytes(255), Bench.filled(255, 3)), true);
        dataDue(16, "a", Bench.all(Bench.bytes(255), Bench.filled(254, 3)), false);
        dataDue(0, "a", Bench.bytes(), true);
    }

    private static void write() {
        WireMessages x = new WireMessages();
        x.begin(7, 0x0100);
        Bench.ask(x, Bench.name("a.b"), 1, 1);
        Bench.add(x, 1, Bench.name("a.b"), 1, FOUR);
        Bench.due("9: write(512)", x.write(512), 37);
        byte[] whole = Bench.all(Bench.head(7, 0x0100, 1, 1, 0, 0), Bench.asked(Bench.name("a.b"), 1, 1),
                Bench.entry(Bench.pointer(12), 1, 1, 60, FOUR));
        Bench.dueBytes("9: the message", Bench.message(x), whole);
        for (int limit : new int[] {11, 0, -1, 65_536, Integer.MAX_VALUE, Integer.MIN_VALUE}) {
            Bench.dueThrow("9: write(" + limit + ")", IllegalArgumentException.class, () -> x.write(limit));
        }
        Bench.due("9: the message before stays", x.count(1), 37);
        Bench.due("9: write(37)", x.write(37), 37);
        Bench.due("9: write(36)", x.write(36), 21);
        Bench.due("9: the flag is set", x.written(2) << 8 | x.written(3), 0x0300);
        Bench.due("9: not among what is gathered", x.header(1), 0x0100);
        Bench.due("9: what is gathered stays", x.header(3), 1);
        Bench.due("9: write(65535)", x.write(65_535), 37);
        Bench.dueBytes("9: the same message", Bench.message(x), whole);
        Bench.due("9: write(12)", x.write(12), 12);
        Bench.add(x, 3, Bench.name(""), 41, Bench.bytes(9));
        Bench.dueThrow("9: write(23)", UnsupportedOperationException.class, () -> x.write(23));
        Bench.due("9: the message before stays", x.count(1), 12);
        Bench.dueThrow("9: first the limit", IllegalArgumentException.class, () -> x.write(11));
        Bench.due("9: write(24)", x.write(24), 24);
    }

    private static void back() {
        WireMessages x = new WireMessages();
        Bench.due("10: without a message", x.back(-1, 1), 0);
        Bench.dueThrow("10: byte 0 of none", IndexOutOfBoundsException.class, () -> x.back(0, 1));
        x.begin(0x1234, 0x8001);
        x.write(12);
        x.feed(1, 2, 3, 4, 5);
        for (int at : new int[] {-2, 12, Integer.MAX_VALUE, Integer.MIN_VALUE}) {
            Bench.dueThrow("10: byte " + at, IndexOutOfBoundsException.class, () -> x.back(at, 1));
        }
        Bench.due("10: the tape after throws", x.count(0), 20);
        Bench.due("10: as it is", x.back(-1, 255), 12);
        x.read();
        Bench.due("10: id as it is", x.header(0), 0x1234);
        Bench.due("10: byte 0", x.back(0, 0xFFFFFF81), 12);
        x.read();
        Bench.due("10: id changed", x.header(0), 0x9334);
        Bench.due("10: the message is not changed", x.written(0), 0x12);
        Bench.due("10: byte 11", x.back(11, 1), 12);
        Bench.due("10: one additional is due", x.read(), 1);
    }

    private static void written() {
        WireMessages x = new WireMessages();
        Bench.dueThrow("11: without a message", IndexOutOfBoundsException.class, () -> x.written(0));
        x.begin(0xFF00, 0x80);
        x.write(512);
        Bench.due("11: written(0)", x.written(0), 255);
        Bench.due("11: written(3)", x.written(3), 128);
        Bench.due("11: written(11)", x.written(11), 0);
        for (int i : new int[] {-1, 12, Integer.MAX_VALUE, Integer.MIN_VALUE}) {
            Bench.dueThrow("11: written(" + i + ")", IndexOutOfBoundsException.class, () -> x.written(i));
        }
        x.begin(0, 0);
        Bench.due("11: begin leaves it", x.written(0), 255);
    }

    private static void header() {
        WireMessages x = new WireMessages();
        x.begin(3, 4);
        for (int section = 1; section <= 3; section++) {
            for (int k = 0; k < section + 1; k++) {
                Bench.add(x, section, Bench.name(""), 1, FOUR);
            }
        }
        Bench.ask(x, Bench.name(""), 1, 1);
        int[] want = {3, 4, 1, 2, 3, 4};
        for (int what = 0; what < 6; what++) {
            Bench.due("12: header(" + what + ")", x.header(what), want[what]);
        }
        for (int what : new int[] {-1, 6, Integer.MAX_VALUE, Integer.MIN_VALUE}) {
            Bench.dueThrow("12: header(" + what + ")", IllegalArgumentException.class, () -> x.header(what));
        }
    }

    private static void told() {
        WireMessages x = new WireMessages();
        Bench.ask(x, Bench.name("abc"), 5, 6);
        Bench.lay(x, Bench.all(Bench.name("ab"), Bench.filled(9, 1)));
        x.record(2, 77, 78, 79);
        int[] ofQuestion = {5, 6, 5};
        int[] ofRecord = {77, 78, 4, 9, 79};
        for (int what = 0; what < 5; what++) {
            int asked = what;
            if (what < 3) {
                Bench.due("13: of the question, " + what, x.told(0, 0, what), ofQuestion[what]);
            } else {
                Bench.dueThrow("13: of the question, " + what, IllegalArgumentException.class, () -> x.told(0, 0, asked));
            }
            Bench.due("13: of the record, " + what, x.told(2, 0, what), ofRecord[what]);
        }
        for (int what : new int[] {-1, 5, Integer.MAX_VALUE, Integer.MIN_VALUE}) {
            Bench.dueThrow("13: of the question, " + what, IllegalArgumentException.class, () -> x.told(0, 0, what));
            Bench.dueThrow("13: of the record, " + what, IllegalArgumentException.class, () -> x.told(2, 0, what));
            Bench.dueThrow("13: first no such one", NoSuchElementException.class, () -> x.told(1, 0, what));
        }
        noSuchOnes("13: told", x, (section, k) -> x.told(section, k, 0));
    }

    interface OfOne {
        long answer(int section, int k);
    }

    /** With one question and one record in section 2. */
    private static void noSuchOnes(String what, WireMessages x, OfOne call) {
        int[][] none = {{-1, 0}, {4, 0}, {Integer.MAX_VALUE, 0}, {Integer.MIN_VALUE, 0}, {1, 0}, {3, 0}, {0, 1}, {2, 1},
            {0, -1}, {2, -1}, {2, Integer.MAX_VALUE}, {0, Integer.MIN_VALUE}};
        for (int[] one : none) {
            Bench.dueThrow(what + " of " + one[0] + ", " + one[1], NoSuchElementException.class,
                    () -> call.answer(one[0], one[1]));
        }
    }

    private static void byteOf() {
        WireMessages x = new WireMessages();
        Bench.ask(x, Bench.bytes(2, 200, 0, 0), 5, 6);
        Bench.lay(x, Bench.bytes(1, 97, 0, 255, 128));
        x.record(2, 77, 78, 79);
        Bench.due("14: byte 1 of the question", x.byteOf(0, 0, 1), 200);
        Bench.due("14: byte 3 of the question", x.byteOf(0, 0, 3), 0);
        Bench.due("14: byte 0 of the record", x.byteOf(2, 0, 0), 1);
        Bench.due("14: byte 3 of the record", x.byteOf(2, 0, 3), 255);
        Bench.due("14: byte 4 of the record", x.byteOf(2, 0, 4), 128);
        for (int i : new int[] {-1, 5, Integer.MAX_VALUE, Integer.MIN_VALUE}) {
            Bench.dueThrow("14: byte " + i, IndexOutOfBoundsException.class, () -> x.byteOf(2, 0, i));
            Bench.dueThrow("14: first no such one", NoSuchElementException.class, () -> x.byteOf(2, 1, i));
        }
        Bench.dueThrow("14: byte 4 of the question", IndexOutOfBoundsException.class, () -> x.byteOf(0, 0, 4));
        noSuchOnes("14: byteOf", x, (section, k) -> x.byteOf(section, k, 0));
    }

    private static void ordered(byte[] first, byte[] second, int want) {
        WireMessages x = new WireMessages();
        Bench.ask(x, first, 1, 1);
        Bench.add(x, 2, second, 1, FOUR);
        String what = java.util.Arrays.toString(first) + " and " + java.util.Arrays.toString(second);
        Bench.due("15: same of " + what, x.same(0, 0, 2, 0) ? 1 : 0, want == 0 ? 1 : 0);
        Bench.due("15: same of " + what + " turned", x.same(2, 0, 0, 0) ? 1 : 0, want == 0 ? 1 : 0);
        Bench.due("16: order of " + what, x.order(0, 0, 2, 0), want);
        Bench.due("16: order of " + what + " turned", x.order(2, 0, 0, 0), -want);
        Bench.due("16: order of one with itself", x.order(2, 0, 2, 0), 0);
    }

    private static void same() {
        ordered(Bench.name("a.b"), Bench.name("a.b"), 0);
        ordered(Bench.name("AZ.b"), Bench.name("az.B"), 0);
        ordered(Bench.name(""), Bench.name(""), 0);
        ordered(Bench.name("@["), Bench.name("`{"), -1);
        ordered(Bench.nameOf(255, 'q'), Bench.nameOf(255, 'Q'), 0);
        ordered(Bench.bytes(1, 193, 0), Bench.bytes(1, 225, 0), -1);
        WireMessages x = new WireMessages();
        Bench.ask(x, Bench.name("a"), 1, 1);
        Bench.add(x, 2, Bench.name("b"), 1, FOUR);
        noSuchOnes("15: same", x, (section, k) -> x.same(section, k, 0, 0) ? 1 : 0);
        noSuchOnes("15: same", x, (section, k) -> x.same(0, 0, section, k) ? 1 : 0);
        noSuchOnes("16: order", x, (section, k) -> x.order(section, k, 0, 0));
        noSuchOnes("16: order", x, (section, k) -> x.order(0, 0, section, k));
    }

    private static void order() {
        ordered(Bench.name(""), Bench.name("a"), -1);
        ordered(Bench.name("example"), Bench.name("a.example"), -1);
        ordered(Bench.name("z.a"), Bench.name("a.b"), -1);
        ordered(Bench.name("ab"), Bench.name("abc"), -1);
        ordered(Bench.name("z.ab"), Bench.name("a.abc"), -1);
        ordered(Bench.name("b"), Bench.name("aa"), 1);
        ordered(Bench.name("Z"), Bench.name("["), 1);
        ordered(Bench.name("Z"), Bench.name("_"), 1);
        ordered(Bench.name("B.x"), Bench.name("a.X"), 1);
        ordered(Bench.bytes(1, 200, 0), Bench.bytes(1, 100, 0), 1);
        ordered(Bench.bytes(1, 1, 1, 'z', 0), Bench.bytes(1, '*', 1, 'z', 0), -1);
        ordered(Bench.bytes(1, 0, 0), Bench.bytes(2, 0, 0, 0), -1);
    }

    private static void count() {
        WireMessages x = new WireMessages();
        for (int what : new int[] {-1, 4, Integer.MAX_VALUE, Integer.MIN_VALUE}) {
            Bench.due("17: count(" + what + ")", x.count(what), -1);
        }
        Bench.ask(x, Bench.name("a.b"), 1, 1);
        Bench.add(x, 1, Bench.name("c.a.b"), 1, FOUR);
        Bench.add(x, 1, Bench.name("c.a.b"), 2, Bench.name("d.c.a.b"));
        Bench.due("17: write", x.write(512), 21 + 18 + 16);
        Bench.due("17: count(1)", x.count(1), 55);
        Bench.due("17: count(2)", x.count(2), 3);
        Bench.due("17: count(3) before", x.count(3), 0);
        x.back(-1, 0);
        Bench.due("17: count(0)", x.count(0), 55);
        Bench.due("17: read", x.read(), 0);
        Bench.due("17: count(0) after", x.count(0), 0);
        Bench.due("17: count(3)", x.count(3), 1 + 2 + 2);
        x.back(1, 3);
        x.feed(0, 0, 0, 0, 0);
        Bench.due("17: read with a fault", x.read(), 6);
        Bench.due("17: count(3) is of the last without", x.count(3), 5);
        Bench.ask(x, Bench.name("q"), 1, 1);
        Bench.due("17: count(3) after a question", x.count(3), 5);
        x.write(18);
        Bench.due("17: count(2) without pointers", x.count(2), 0);
    }
}
