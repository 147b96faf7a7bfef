import java.util.Arrays;
import java.util.NoSuchElementException;

/** The promises 1 to 17, one by one: ordinary inputs, edges and wrong inputs. */
public final class PromiseTest extends Bench {
    private static final byte[] FOUR = bytes(1, 2, 3, 4);

    private PromiseTest() {
    }

    public static void main(String[] args) {
        aNewObject();
        feed();
        end();
        read();
        faultAt();
        begin();
        question();
        questionThrows();
        record();
        recordThrows();
        recordData();
        write();
        back();
        written();
        header();
        told();
        byteOf();
        same();
        order();
        count();
        lowBits();
        times();
        theTape();
        fullTape();
        namesOfQuestions();
        namesOfRecords();
        longestData();
        backBits();
        backOfNothing();
        everyByte();
        nameThenData();
        lastOnes();
        pairsOfBytes();
        endsOfNames();
        counts();
        finish();
    }

    private static void aNewObject() {
        WireMessages x = new WireMessages();
        for (int what = 0; what <= 5; what++) {
            due("1: header(" + what + ")", x.header(what), 0);
        }
        for (int what = 0; what <= 3; what++) {
            due("1: count(" + what + ")", x.count(what), 0);
        }
        due("1: faultAt()", x.faultAt(), -1);
        dueThrow("1: written(0)", IndexOutOfBoundsException.class, () -> x.written(0));
        due("1: back(-1, 0)", x.back(-1, 0), 0);
        due("1: write(12)", x.write(12), 12);
        dueBytes("1: the empty message", message(x), new byte[12]);
    }

    private static void feed() {
        WireMessages x = new WireMessages();
        due("2: feed", x.feed(0x01020304, -1, 0x80000000, 0x7F00FF01, 5), 20);
        due("2: feed again", x.feed(6, 7, 8, 9, 0x0A0B0C0D), 40);
        due("2: count(0)", x.count(0), 40);
        byte[] fed = all(four(0x01020304), four(-1), four(0x80000000), four(0x7F00FF01),
                four(5), four(6), four(7), four(8), four(9), four(0x0A0B0C0D));
        WireMessages y = new WireMessages();
        y.feed(0, 0, 0, 0, 0);
        y.end(1);
        y.feed(0x01020304, -1, 0x80000000, 0x7F00FF01, 5);
        y.feed(6, 7, 8, 9, 0x0A0B0C0D);
        y.record(1, 99, 1, 1);
        dueBytes("2: the bytes fed", nameAndData(y, 1, 0), all(bytes(0), fed));
    }

    private static void end() {
        WireMessages x = new WireMessages();
        due("3: end(0) of nothing", x.end(0), 0);
        dueThrow("3: end(1) of nothing", IllegalArgumentException.class, () -> x.end(1));
        x.feed(1, 2, 3, 4, 5);
        dueThrow("3: end(21)", IllegalArgumentException.class, () -> x.end(21));
        dueThrow("3: end(-1)", IllegalArgumentException.class, () -> x.end(-1));
        due("3: after throws", x.count(0), 20);
        due("3: end(20)", x.end(20), 20);
        due("3: end(7)", x.end(7), 7);
        due("3: count(0)", x.count(0), 7);
        dueThrow("3: end(8)", IllegalArgumentException.class, () -> x.end(8));
        due("3: feed behind the end", x.feed(0, 0, 0, 0, 0), 27);
        due("3: end(0)", x.end(0), 0);
    }

    private static void read() {
        WireMessages x = new WireMessages();
        x.begin(1, 1);
        ask(x, name("old"), 1, 1);
        byte[] question = asked(name("a.b"), 255, 3);
        byte[] answer = entry(pointer(12), 15, 1, -2, all(two(7), label("mx"), pointer(14)));
        lay(x, all(head(0xFFFE, 0x8180, 1, 1, 0, 0), question, answer));
        due("4: read()", x.read(), 0);
        due("4: the tape is empty", x.count(0), 0);
        due("4: id", x.header(0), 0xFFFE);
        due("4: flags", x.header(1), 0x8180);
        due("4: questions", x.header(2), 1);
        due("4: answers", x.header(3), 1);
        due("4: class", x.told(0, 0, 1), 3);
        due("4: time", x.told(1, 0, 4), -2);
        dueBytes("4: the question", nameAndData(x, 0, 0), name("a.b"));
        dueBytes("4: the answer", nameAndData(x, 1, 0),
                all(name("a.b"), two(7), name("mx.b")));
        lay(x, all(head(5, 5, 1, 0, 0, 0), question, bytes(0)));
        due("4: read() of a fault", x.read(), 6);
        due("4: the tape is empty with a fault", x.count(0), 0);
        for (int what = 0; what <= 5; what++) {
            due("4: with a fault header(" + what + ")", x.header(what), 0);
        }
    }

    private static void faultAt() {
        WireMessages x = new WireMessages();
        due("5: before the first", x.faultAt(), -1);
        lay(x, all(head(0, 0, 0, 0, 0, 0), bytes(1, 2)));
        x.read();
        due("5: the first byte behind", x.faultAt(), 12);
        due("5: a bad question", thrown(() -> ask(x, bytes(70), 1, 1)), 1);
        x.end(0);
        due("5: is of the reading alone", x.faultAt(), 12);
        lay(x, new byte[12]);
        x.read();
        due("5: without one", x.faultAt(), -1);
    }

    private static int thrown(Call call) {
        try {
            call.answer();
            return 0;
        } catch (RuntimeException e) {
            return 1;
        }
    }

    private static void begin() {
        WireMessages x = new WireMessages();
        ask(x, name("a"), 1, 1);
        add(x, 2, name("a"), 1, FOUR);
        x.write(512);
        x.feed(1, 2, 3, 4, 5);
        x.begin(0x12345, -1);
        due("6: id", x.header(0), 0x2345);
        due("6: flags", x.header(1), 0xFFFF);
        due("6: questions", x.header(2), 0);
        due("6: authorities", x.header(4), 0);
        due("6: the tape stays", x.count(0), 20);
        due("6: what was written stays", x.count(1), 12 + 7 + 16);
    }

    private static void question() {
        WireMessages x = new WireMessages();
        due("7: the first", ask(x, name("www.Example"), 0x10001, -1), 1);
        due("7: the tape is empty", x.count(0), 0);
        due("7: the second", ask(x, name(""), 2, 3), 2);
        due("7: type", x.told(0, 0, 0), 1);
        due("7: class", x.told(0, 0, 1), 0xFFFF);
        due("7: the longest name", ask(x, nameOf(255, 'a'), 2, 3), 3);
        dueBytes("7: name", nameAndData(x, 0, 0), name("www.Example"));
        dueBytes("7: root", nameAndData(x, 0, 1), name(""));
        dueBytes("7: the longest", nameAndData(x, 0, 2), nameOf(255, 'a'));
    }

    private static void badQuestion(String what, byte[] row) {
        WireMessages x = new WireMessages();
        lay(x, row);
        dueThrow("7: " + what, IllegalArgumentException.class, () -> x.question(1, 1));
        due("7: tape after " + what, x.count(0), row.length);
        due("7: questions after " + what, x.header(2), 0);
    }

    private static void questionThrows() {
        badQuestion("no bytes", bytes());
        badQuestion("no end", labels("a.b"));
        badQuestion("half a label", bytes(3, 97, 98));
        badQuestion("bytes behind", bytes(1, 97, 0, 0));
        badQuestion("a length of 64", all(bytes(64), filled(64, 'a'), bytes(0)));
        badQuestion("a pointer", all(label("a"), pointer(0)));
        badQuestion("256 bytes", nameOf(256, 'a'));
        WireMessages x = new WireMessages();
        for (int k = 1; k <= 100; k++) {
            due("7: question " + k, ask(x, name(""), k, 1), k);
        }
        lay(x, name(""));
        dueThrow("7: the 101st", IllegalStateException.class, () -> x.question(1, 1));
        due("7: tape after the 101st", x.count(0), 1);
        due("7: questions after the 101st", x.header(2), 100);
        x.end(0);
        dueThrow("7: first the name", IllegalArgumentException.class, () -> x.question(1, 1));
        due("7: a record has still a place", add(x, 1, name(""), 1, FOUR), 1);
    }

    private static void record() {
        WireMessages x = new WireMessages();
        lay(x, all(name("b.c"), FOUR));
        due("8: the first of 3", x.record(3, 0x10001, 0x10002, -7), 1);
        due("8: the tape is empty", x.count(0), 0);
        due("8: the first of 1", add(x, 1, name("d"), 2, name("e")), 1);
        due("8: the second of 3", add(x, 3, name(""), 41, bytes()), 2);
        due("8: the first of 2", add(x, 2, name("f"), 10, bytes()), 1);
        due("8: type", x.told(3, 0, 0), 1);
        due("8: class", x.told(3, 0, 1), 2);
        due("8: time", x.told(3, 0, 4), -7);
        dueBytes("8: bytes", nameAndData(x, 3, 0), all(name("b.c"), FOUR));
        dueBytes("8: of 1", nameAndData(x, 1, 0), all(name("d"), name("e")));
        due("8: second of 3", x.told(3, 1, 0), 41);
        due("8: no data", x.told(2, 0, 3), 0);
    }

    private static void recordThrows() {
        WireMessages x = new WireMessages();
        x.feed(-1, 0, 0, 0, 0);
        for (int section : new int[] {-1, 0, 4, Integer.MAX_VALUE, Integer.MIN_VALUE}) {
            dueThrow("8: section " + section, NoSuchElementException.class, () -> x.record(section, 1, 1, 1));
        }
        dueThrow("8: no name", IllegalArgumentException.class, () -> x.record(1, 1, 1, 1));
        due("8: the tape after throws", x.count(0), 20);
        x.end(0);
        dueThrow("8: no bytes", IllegalArgumentException.class, () -> x.record(1, 99, 1, 1));
        due("8: nothing gathered", x.header(3), 0);
    }

    private static void dataDue(int type, String name, byte[] data, boolean good) {
        WireMessages x = new WireMessages();
        byte[] row = all(name(name), data);
        lay(x, row);
        String what = "8: type " + type + " under '" + name + "' with " + Arrays.toString(data);
        if (good) {
            due(what, x.record(2, type, 1, 1), 1);
            dueBytes(what, nameAndData(x, 2, 0), row);
        } else {
            dueThrow(what, IllegalArgumentException.class, () -> x.record(2, type, 1, 1));
            due(what + ": the tape", x.count(0), row.length);
            due(what + ": records", x.header(4), 0);
        }
    }

    private static void recordData() {
        for (int size = 0; size < 40; size++) {
            dataDue(1, "a", filled(size, 1), size == 4);
            dataDue(28, "a", filled(size, 0), size == 16);
            dataDue(99, "a", filled(size, 200), true);
            dataDue(41, "", filled(size, 200), true);
            dataDue(41, "a", filled(size, 200), false);
            dataDue(6, "a", all(name("b.c"), name("d"), filled(size, 9)), size == 20);
        }
        for (int type : new int[] {2, 5, 12}) {
            dataDue(type, "a", name("b.c"), true);
            dataDue(type, "a", name(""), true);
            dataDue(type, "a", bytes(), false);
            dataDue(type, "a", labels("b"), false);
            dataDue(type, "a", all(name("b"), bytes(0)), false);
            dataDue(type, "a", pointer(0), false);
            dataDue(type, "a", all(label("b"), pointer(0)), false);
            dataDue(type, "a", nameOf(255, 'x'), true);
            dataDue(type, "a", nameOf(256, 'x'), false);
            dataDue(type, "a", bytes(64, 0), false);
        }
        for (int size = 0; size < 9; size++) {
            dataDue(15, "a", all(filled(size, 0), bytes(2, 98, 99, 0)), size == 2);
            dataDue(33, "a", all(filled(size, 0), bytes(2, 98, 99, 0)), size == 6 || size == 3);
        }
        dataDue(15, "a", bytes(0, 0), false);
        dataDue(15, "a", bytes(0), false);
        dataDue(15, "a", bytes(255, 255, 0), true);
        dataDue(33, "a", bytes(255, 255, 1, 1, 7, 7, 0), true);
        dataDue(33, "a", bytes(255, 255, 1, 1, 7, 7), false);
        dataDue(33, "a", bytes(255, 255, 1, 1, 7), false);
        dataDue(33, "a", bytes(255, 255, 1, 1, 7, 7, 0, 0), false);
        dataDue(33, "a", bytes(255, 255, 1, 1, 7, 7, 192, 0), false);
        dataDue(16, "a", bytes(), false);
        dataDue(16, "a", bytes(0), true);
        dataDue(16, "a", bytes(0, 0), true);
        dataDue(16, "a", bytes(1), false);
        dataDue(16, "a", bytes(2, 200, 201, 1, 0), true);
        dataDue(16, "a", bytes(2, 200, 201, 2, 0), false);
        dataDue(16, "a", all(bytes(255), filled(255, 3)), true);
        dataDue(16, "a", all(bytes(255), filled(254, 3)), false);
        dataDue(0, "a", bytes(), true);
    }

    private static void write() {
        WireMessages x = new WireMessages();
        x.begin(7, 0x0100);
        ask(x, name("a.b"), 1, 1);
        add(x, 1, name("a.b"), 1, FOUR);
        due("9: write(512)", x.write(512), 37);
        byte[] whole = all(head(7, 0x0100, 1, 1, 0, 0), asked(name("a.b"), 1, 1),
                entry(pointer(12), 1, 1, 60, FOUR));
        dueBytes("9: the message", message(x), whole);
        for (int limit : new int[] {11, 0, -1, 65_536, Integer.MAX_VALUE, Integer.MIN_VALUE}) {
            dueThrow("9: write(" + limit + ")", IllegalArgumentException.class, () -> x.write(limit));
        }
        due("9: the message before stays", x.count(1), 37);
        due("9: write(37)", x.write(37), 37);
        due("9: write(36)", x.write(36), 21);
        due("9: the flag is set", x.written(2) << 8 | x.written(3), 0x0300);
        due("9: not among what is gathered", x.header(1), 0x0100);
        due("9: what is gathered stays", x.header(3), 1);
        due("9: write(65535)", x.write(65_535), 37);
        dueBytes("9: the same message", message(x), whole);
        due("9: write(12)", x.write(12), 12);
        add(x, 3, name(""), 41, bytes(9));
        dueThrow("9: write(23)", UnsupportedOperationException.class, () -> x.write(23));
        due("9: the message before stays", x.count(1), 12);
        dueThrow("9: first the limit", IllegalArgumentException.class, () -> x.write(11));
        due("9: write(24)", x.write(24), 24);
    }

    private static void back() {
        WireMessages x = new WireMessages();
        due("10: without a message", x.back(-1, 1), 0);
        dueThrow("10: byte 0 of none", IndexOutOfBoundsException.class, () -> x.back(0, 1));
        x.begin(0x1234, 0x8001);
        x.write(12);
        x.feed(1, 2, 3, 4, 5);
        for (int at : new int[] {-2, 12, Integer.MAX_VALUE, Integer.MIN_VALUE}) {
            dueThrow("10: byte " + at, IndexOutOfBoundsException.class, () -> x.back(at, 1));
        }
        due("10: the tape after throws", x.count(0), 20);
        due("10: as it is", x.back(-1, 255), 12);
        x.read();
        due("10: id as it is", x.header(0), 0x1234);
        due("10: byte 0", x.back(0, 0xFFFFFF81), 12);
        x.read();
        due("10: id changed", x.header(0), 0x9334);
        due("10: the message is not changed", x.written(0), 0x12);
        due("10: byte 11", x.back(11, 1), 12);
        due("10: one additional is due", x.read(), 1);
    }

    private static void written() {
        WireMessages x = new WireMessages();
        dueThrow("11: without a message", IndexOutOfBoundsException.class, () -> x.written(0));
        x.begin(0xFF00, 0x80);
        x.write(512);
        due("11: written(0)", x.written(0), 255);
        due("11: written(3)", x.written(3), 128);
        due("11: written(11)", x.written(11), 0);
        for (int i : new int[] {-1, 12, Integer.MAX_VALUE, Integer.MIN_VALUE}) {
            dueThrow("11: written(" + i + ")", IndexOutOfBoundsException.class, () -> x.written(i));
        }
        x.begin(0, 0);
        due("11: begin leaves it", x.written(0), 255);
    }

    private static void header() {
        WireMessages x = new WireMessages();
        x.begin(3, 4);
        for (int section = 1; section <= 3; section++) {
            for (int k = 0; k < section + 1; k++) {
                add(x, section, name(""), 1, FOUR);
            }
        }
        ask(x, name(""), 1, 1);
        int[] want = {3, 4, 1, 2, 3, 4};
        for (int what = 0; what < 6; what++) {
            due("12: header(" + what + ")", x.header(what), want[what]);
        }
        for (int what : new int[] {-1, 6, Integer.MAX_VALUE, Integer.MIN_VALUE}) {
            dueThrow("12: header(" + what + ")", IllegalArgumentException.class, () -> x.header(what));
        }
    }

    private static void told() {
        WireMessages x = new WireMessages();
        ask(x, name("abc"), 5, 6);
        lay(x, all(name("ab"), filled(9, 1)));
        x.record(2, 77, 78, 79);
        int[] ofQuestion = {5, 6, 5};
        int[] ofRecord = {77, 78, 4, 9, 79};
        for (int what = 0; what < 5; what++) {
            int asked = what;
            if (what < 3) {
                due("13: of the question, " + what, x.told(0, 0, what), ofQuestion[what]);
            } else {
                dueThrow("13: of the question, " + what, IllegalArgumentException.class, () -> x.told(0, 0, asked));
            }
            due("13: of the record, " + what, x.told(2, 0, what), ofRecord[what]);
        }
        for (int what : new int[] {-1, 5, Integer.MAX_VALUE, Integer.MIN_VALUE}) {
            dueThrow("13: of the question, " + what, IllegalArgumentException.class, () -> x.told(0, 0, what));
            dueThrow("13: of the record, " + what, IllegalArgumentException.class, () -> x.told(2, 0, what));
            dueThrow("13: first no such one", NoSuchElementException.class, () -> x.told(1, 0, what));
        }
        noSuchOnes("13: told", x, (section, k) -> x.told(section, k, 0));
    }

    interface OfOne {
        long answer(int section, int k);
    }

    /** With one question and one record in section 2. */
    private static void noSuchOnes(String what, WireMessages x, OfOne call) {
        int[][] none = {{-1, 0}, {4, 0}, {Integer.MAX_VALUE, 0}, {Integer.MIN_VALUE, 0}, {1, 0}, {3, 0}, {0, 1}, {2, 1},
            {0, -1}, {2, -1}, {2, Integer.MAX_VALUE}, {0, Integer.MIN_VALUE}};
        for (int[] one : none) {
            dueThrow(what + " of " + one[0] + ", " + one[1], NoSuchElementException.class,
                    () -> call.answer(one[0], one[1]));
        }
    }

    private static void byteOf() {
        WireMessages x = new WireMessages();
        ask(x, bytes(2, 200, 0, 0), 5, 6);
        lay(x, bytes(1, 97, 0, 255, 128));
        x.record(2, 77, 78, 79);
        due("14: byte 1 of the question", x.byteOf(0, 0, 1), 200);
        due("14: byte 3 of the question", x.byteOf(0, 0, 3), 0);
        due("14: byte 0 of the record", x.byteOf(2, 0, 0), 1);
        due("14: byte 3 of the record", x.byteOf(2, 0, 3), 255);
        due("14: byte 4 of the record", x.byteOf(2, 0, 4), 128);
        for (int i : new int[] {-1, 5, Integer.MAX_VALUE, Integer.MIN_VALUE}) {
            dueThrow("14: byte " + i, IndexOutOfBoundsException.class, () -> x.byteOf(2, 0, i));
            dueThrow("14: first no such one", NoSuchElementException.class, () -> x.byteOf(2, 1, i));
        }
        dueThrow("14: byte 4 of the question", IndexOutOfBoundsException.class, () -> x.byteOf(0, 0, 4));
        noSuchOnes("14: byteOf", x, (section, k) -> x.byteOf(section, k, 0));
    }

    private static void ordered(byte[] first, byte[] second, int want) {
        WireMessages x = new WireMessages();
        ask(x, first, 1, 1);
        add(x, 2, second, 1, FOUR);
        String what = Arrays.toString(first) + " and " + Arrays.toString(second);
        due("15: same of " + what, x.same(0, 0, 2, 0) ? 1 : 0, want == 0 ? 1 : 0);
        due("15: same of " + what + " turned", x.same(2, 0, 0, 0) ? 1 : 0, want == 0 ? 1 : 0);
        due("16: order of " + what, x.order(0, 0, 2, 0), want);
        due("16: order of " + what + " turned", x.order(2, 0, 0, 0), -want);
        due("16: order of one with itself", x.order(2, 0, 2, 0), 0);
    }

    private static void same() {
        ordered(name("a.b"), name("a.b"), 0);
        ordered(name("AZ.b"), name("az.B"), 0);
        ordered(name(""), name(""), 0);
        ordered(name("@["), name("`{"), -1);
        ordered(nameOf(255, 'q'), nameOf(255, 'Q'), 0);
        ordered(bytes(1, 193, 0), bytes(1, 225, 0), -1);
        WireMessages x = new WireMessages();
        ask(x, name("a"), 1, 1);
        add(x, 2, name("b"), 1, FOUR);
        noSuchOnes("15: same", x, (section, k) -> x.same(section, k, 0, 0) ? 1 : 0);
        noSuchOnes("15: same", x, (section, k) -> x.same(0, 0, section, k) ? 1 : 0);
        noSuchOnes("16: order", x, (section, k) -> x.order(section, k, 0, 0));
        noSuchOnes("16: order", x, (section, k) -> x.order(0, 0, section, k));
    }

    private static void order() {
        ordered(name(""), name("a"), -1);
        ordered(name("example"), name("a.example"), -1);
        ordered(name("z.a"), name("a.b"), -1);
        ordered(name("ab"), name("abc"), -1);
        ordered(name("z.ab"), name("a.abc"), -1);
        ordered(name("b"), name("aa"), 1);
        ordered(name("Z"), name("["), 1);
        ordered(name("Z"), name("_"), 1);
        ordered(name("B.x"), name("a.X"), 1);
        ordered(bytes(1, 200, 0), bytes(1, 100, 0), 1);
        ordered(bytes(1, 1, 1, 'z', 0), bytes(1, '*', 1, 'z', 0), -1);
        ordered(bytes(1, 0, 0), bytes(2, 0, 0, 0), -1);
    }

    private static void count() {
        WireMessages x = new WireMessages();
        for (int what : new int[] {-1, 4, Integer.MAX_VALUE, Integer.MIN_VALUE}) {
            due("17: count(" + what + ")", x.count(what), -1);
        }
        ask(x, name("a.b"), 1, 1);
        add(x, 1, name("c.a.b"), 1, FOUR);
        add(x, 1, name("c.a.b"), 2, name("d.c.a.b"));
        due("17: write", x.write(512), 21 + 18 + 16);
        due("17: count(1)", x.count(1), 55);
        due("17: count(2)", x.count(2), 3);
        due("17: count(3) before", x.count(3), 0);
        x.back(-1, 0);
        due("17: count(0)", x.count(0), 55);
        due("17: read", x.read(), 0);
        due("17: count(0) after", x.count(0), 0);
        due("17: count(3)", x.count(3), 1 + 2 + 2);
        x.back(1, 3);
        x.feed(0, 0, 0, 0, 0);
        due("17: read with a fault", x.read(), 6);
        due("17: count(3) is of the last without", x.count(3), 5);
        ask(x, name("q"), 1, 1);
        due("17: count(3) after a question", x.count(3), 5);
        x.write(18);
        due("17: count(2) without pointers", x.count(2), 0);
    }

    private static void lowBits() {
        by("6, 7, 8: 16 low bits each");
        int[] given = {0, 1, 65_535, 65_536, 65_537, -1, -65_536, Integer.MIN_VALUE, Integer.MAX_VALUE};
        int[] kept = {0, 1, 65_535, 0, 1, 65_535, 0, 0, 65_535};
        for (int k = 0; k < given.length; k++) {
            WireMessages x = new WireMessages();
            x.begin(given[k], given[given.length - 1 - k]);
            due("id " + given[k], x.header(0), kept[k]);
            due("flags " + given[given.length - 1 - k], x.header(1), kept[kept.length - 1 - k]);
            lay(x, name("a"));
            x.question(given[k], given[given.length - 1 - k]);
            due("a question's type", x.told(0, 0, 0), kept[k]);
            due("a question's class", x.told(0, 0, 1), kept[kept.length - 1 - k]);
            lay(x, all(name("a"), FOUR));
            x.record(1, given[k], given[given.length - 1 - k], 0);
            due("a record's type", x.told(1, 0, 0), kept[k]);
            due("a record's class", x.told(1, 0, 1), kept[kept.length - 1 - k]);
            due("written", x.write(512), 12 + 7 + 16);
            due("the id written", x.written(0) << 8 | x.written(1), kept[k]);
        }
        by("8: the data is as the type of 16 low bits says");
        WireMessages y = new WireMessages();
        lay(y, all(name("a"), FOUR, bytes(0)));
        dueThrow("type 65,537", IllegalArgumentException.class, () -> y.record(1, 65_537, 1, 1));
        dueThrow("type 41 - 65,536", IllegalArgumentException.class, () -> y.record(1, 41 - 65_536, 1, 1));
        due("type 65,536", y.record(1, 65_536, 1, 1), 1);
    }

    private static void times() {
        by("8: .. and time; 13: time (4)");
        for (int time : new int[] {0, 1, -1, 255, 256, 65_536, Integer.MAX_VALUE, Integer.MIN_VALUE}) {
            WireMessages x = new WireMessages();
            lay(x, bytes(0));
            x.record(2, 99, 1, time);
            due("told", x.told(2, 0, 4), time);
            x.write(512);
            dueBytes("written", Arrays.copyOfRange(message(x), 17, 21), four(time));
            x.back(-1, 0);
            x.read();
            due("read", x.told(2, 0, 4), time);
        }
    }

    private static void theTape() {
        by("THE TAPE: empty at first; a call that takes the TAPE leaves it empty, unless it throws");
        WireMessages x = new WireMessages();
        due("at first", x.count(0), 0);
        lay(x, name("a"));
        x.question(1, 1);
        due("after a question", x.count(0), 0);
        lay(x, all(name("a"), FOUR));
        dueThrow("a question with bytes behind", IllegalArgumentException.class, () -> x.question(1, 1));
        due("after a throw", x.count(0), 7);
        x.record(1, 1, 1, 1);
        due("after a record", x.count(0), 0);
        dueBytes("the record", nameAndData(x, 1, 0), all(name("a"), FOUR));
        lay(x, new byte[12]);
        due("read", x.read(), 0);
        due("after a reading", x.count(0), 0);
        lay(x, new byte[11]);
        due("read with a fault", x.read(), 1);
        due("after a reading with a fault", x.count(0), 0);
        due("read of nothing", x.read(), 1);
        due("fed again", x.feed(1, 2, 3, 4, 5), 20);
    }

    /** A message of 65,535 bytes becomes the tape: so it gets full with few calls. */
    private static WireMessages withLongTape() {
        WireMessages x = new WireMessages();
        lay(x, wide(243, 84));
        due("wide", x.read(), 0);
        due("written again", x.write(65_535), 65_535);
        due("back", x.back(-1, 0), 65_535);
        return x;
    }

    private static void fullTape() {
        by("THE TAPE: a row of bytes, at most 65,536; 2: there is no room for 20");
        WireMessages x = withLongTape();
        dueThrow("room for 1", IllegalStateException.class, () -> x.feed(1, 2, 3, 4, 5));
        x.end(65_517);
        dueThrow("room for 19", IllegalStateException.class, () -> x.feed(1, 2, 3, 4, 5));
        due("after throws", x.count(0), 65_517);
        x.end(65_516);
        due("room for 20", x.feed(1, 2, 3, 4, 0x05060708), 65_536);
        due("full", x.count(0), 65_536);
        dueThrow("full", IllegalStateException.class, () -> x.feed(1, 2, 3, 4, 5));
        due("end where it ends", x.end(65_536), 65_536);
        dueThrow("end behind it", IllegalArgumentException.class, () -> x.end(65_537));
        x.begin(0, 0);
        due("all of it", x.record(1, 99, 1, 1), 1);
        due("the last byte but one", x.byteOf(1, 0, 65_534), 7);
        due("the last byte", x.byteOf(1, 0, 65_535), 8);
    }

    private static boolean isName(byte[] row) {
        WireMessages x = new WireMessages();
        lay(x, row);
        return thrown(() -> x.question(1, 1)) == 0 && x.told(0, 0, 2) == row.length;
    }

    private static void namesOfQuestions() {
        by("NAMES: labels of 1 to 63 bytes, .. and a 0 at the end; at most 255 bytes in all");
        for (int size = 1; size < 256; size++) {
            byte[] row = all(bytes(size), filled(size, 'a'), bytes(0));
            due("a label of " + size, isName(row) ? 1 : 0, size <= 63 ? 1 : 0);
        }
        for (int length = 3; length < 300; length++) {
            due("a name of " + length, isName(nameOf(length, 'a')) ? 1 : 0, length <= 255 ? 1 : 0);
        }
        for (int count = 0; count < 140; count++) {
            due(count + " labels", isName(all(labels("a.".repeat(count)), bytes(0))) ? 1 : 0, count <= 127 ? 1 : 0);
        }
        for (int value = 0; value < 256; value++) {
            due("a label of the byte " + value, isName(bytes(1, value, 0)) ? 1 : 0, 1);
        }
    }

    private static void namesOfRecords() {
        by("8: The TAPE is a name and data");
        for (int length = 250; length < 260; length++) {
            WireMessages x = new WireMessages();
            lay(x, all(nameOf(length, 'a'), FOUR));
            boolean good = thrown(() -> x.record(1, 1, 1, 1)) == 0;
            due("under a name of " + length, good ? x.told(1, 0, 2) : -1, length <= 255 ? length : -1);
        }
        for (int type : new int[] {2, 5, 12}) {
            dataDue(type, "a", nameOf(254, 'x'), true);
            dataDue(type, "a", nameOf(255, 'x'), true);
            dataDue(type, "a", nameOf(256, 'x'), false);
        }
        byte[] end = filled(20, 1);
        dataDue(6, "a", all(nameOf(255, 'x'), name("y"), end), true);
        dataDue(6, "a", all(name("x"), nameOf(255, 'y'), end), true);
        dataDue(6, "a", all(nameOf(256, 'x'), name("y"), end), false);
        dataDue(6, "a", all(name("x"), nameOf(256, 'y'), end), false);
        dataDue(15, "a", all(two(1), nameOf(255, 'x')), true);
        dataDue(15, "a", all(two(1), nameOf(256, 'x')), false);
        dataDue(33, "a", all(filled(6, 1), nameOf(255, 'x')), true);
        dataDue(33, "a", all(filled(6, 1), nameOf(256, 'x')), false);
    }

    private static void longestData() {
        by("Data has at most 65,535 bytes");
        WireMessages x = withLongTape();
        x.end(65_516);
        x.feed(1, 2, 3, 4, 5);
        x.begin(0, 0);
        due("the root and 65,535 bytes", x.record(1, 99, 1, 1), 1);
        due("bytes of its data", x.told(1, 0, 3), 65_535);
        due("it is in no message", x.write(65_535), 12);
        x.begin(0, 0);
        x.back(-1, 0);
        due("the TAPE is short again", x.count(0), 12);
        WireMessages y = withLongTape();
        y.end(65_513);
        y.begin(0, 0);
        due("the root and 65,512 bytes", y.record(1, 99, 1, 1), 1);
        due("it fills a message", y.write(65_535), 65_535);
        due("one byte less", y.write(65_534), 12);
    }

    private static void backBits() {
        by("10: its byte at that place exclusive-or'ed with the low 8 bits of with (at -1: as it is)");
        int[] with = {0, 1, 128, 255, 256, 257, -1, -256, Integer.MIN_VALUE, Integer.MAX_VALUE};
        for (int bits : with) {
            WireMessages x = new WireMessages();
            x.begin(0xA55A, 0);
            x.write(12);
            x.feed(1, 2, 3, 4, 5);
            due("the first byte", x.back(0, bits), 12);
            x.read();
            due("changed by " + bits, x.header(0), 0xA55A ^ (bits & 255) << 8);
            x.back(1, bits);
            x.read();
            due("the second byte changed by " + bits, x.header(0), 0xA55A ^ bits & 255);
            x.back(-1, bits);
            x.read();
            due("as it is", x.header(0), 0xA55A);
            due("the message stays", x.written(0) << 8 | x.written(1), 0xA55A);
        }
    }

    private static void backOfNothing() {
        by("10: without one: no bytes");
        WireMessages x = new WireMessages();
        x.feed(1, 2, 3, 4, 5);
        due("back", x.back(-1, 255), 0);
        due("the TAPE", x.count(0), 0);
        x.write(12);
        x.feed(1, 2, 3, 4, 5);
        due("back of a message", x.back(-1, 255), 12);
        due("not behind the TAPE", x.count(0), 12);
        due("the message stays", x.count(1), 12);
    }

    private static void everyByte() {
        by("11: Byte i, 0 .. 255; 14: Byte i of its name; behind that byte i of its data");
        for (int part = 0; part < 256; part += 64) {
            WireMessages x = new WireMessages();
            byte[] row = new byte[64];
            for (int i = 0; i < 64; i++) {
                row[i] = (byte) (part + i);
            }
            add(x, 1, bytes(0), 99, row);
            x.write(512);
            for (int i = 0; i < 64; i++) {
                due("written", x.written(23 + i), part + i);
                due("byteOf", x.byteOf(1, 0, 1 + i), part + i);
            }
        }
    }

    private static void nameThenData() {
        by("14: Byte i of its name; behind that (from its length on) byte i of its data");
        WireMessages x = new WireMessages();
        add(x, 1, name("ab"), 99, bytes(7, 8, 9));
        add(x, 1, name("cd"), 99, bytes());
        ask(x, name("ef"), 1, 1);
        int[] want = {2, 'a', 'b', 0, 7, 8, 9};
        for (int i = 0; i < want.length; i++) {
            due("byte " + i, x.byteOf(1, 0, i), want[i]);
        }
        dueThrow("behind the data", IndexOutOfBoundsException.class, () -> x.byteOf(1, 0, 7));
        due("the name's last, no data", x.byteOf(1, 1, 3), 0);
        dueThrow("behind the name, no data", IndexOutOfBoundsException.class, () -> x.byteOf(1, 1, 4));
        due("a question's last", x.byteOf(0, 0, 3), 0);
        dueThrow("behind a question's name", IndexOutOfBoundsException.class, () -> x.byteOf(0, 0, 4));
    }

    private static void lastOnes() {
        by("13: Of question or RECORD k, from 0, of a SECTION 0 .. 3");
        WireMessages x = new WireMessages();
        for (int k = 0; k < 5; k++) {
            for (int section = 0; section <= 3; section++) {
                int type = 100 + 10 * section + k;
                due("there are", section == 0 ? ask(x, bytes(0), type, 1) : add(x, section, bytes(0), type, FOUR), k + 1);
            }
        }
        for (int section = 0; section <= 3; section++) {
            for (int k = 0; k < 5; k++) {
                due(section + "/" + k, x.told(section, k, 0), 100 + 10 * section + k);
            }
            int of = section;
            dueThrow(section + "/5", NoSuchElementException.class, () -> x.told(of, 5, 0));
            dueThrow(section + "/-1", NoSuchElementException.class, () -> x.told(of, -1, 0));
        }
    }

    private static int lowered(int value) {
        return value >= 'A' && value <= 'Z' ? value + 'a' - 'A' : value;
    }

    /** Every byte as a label of its own, beside those bytes that stand at the edges. */
    private static void pairsOfBytes() {
        by("15, 16: A .. Z counting as a .. z; labels byte by byte (0 .. 255, A .. Z like a .. z)");
        int[] edges = {0, '@', 'A', 'M', 'Z', '[', '`', 'a', 'm', 'z', '{', 127, 128, 0xC1, 0xE1, 255};
        for (int part = 0; part < 256; part += 8) {
            WireMessages x = new WireMessages();
            for (int edge : edges) {
                ask(x, bytes(1, edge, 0), 1, 1);
            }
            for (int k = 0; k < 8; k++) {
                ask(x, bytes(1, part + k, 0), 1, 1);
                for (int e = 0; e < edges.length; e++) {
                    int want = Integer.compare(lowered(part + k), lowered(edges[e]));
                    String what = part + k + " and " + edges[e];
                    due("order of " + what, x.order(0, 16 + k, 0, e), want);
                    due("same of " + what, x.same(0, 16 + k, 0, e) ? 1 : 0, want == 0 ? 1 : 0);
                }
            }
        }
    }

    private static void endsOfNames() {
        by("16: label by label from the end, a name that is all of the other's end coming first, .. a shorter one first");
        ordered(bytes(0), bytes(1, 0, 0), -1);
        ordered(name("b"), name("a.b"), -1);
        ordered(name("a.b"), name("a.a.b"), -1);
        ordered(name("z.b"), name("a.a.b"), 1);
        ordered(name("b.a"), name("a.b"), -1);
        ordered(name("a"), name("aa"), -1);
        ordered(name("a"), name("a\0"), -1);
        ordered(name("b.a"), name("aa"), -1);
        ordered(name("aa.c"), name("ab.c"), -1);
        ordered(name("ab.a"), name("a.ba"), -1);
        by("15: the lengths, too, as bytes");
        ordered(bytes(3, 'a', 1, 'b', 0), bytes(1, 'a', 1, 'b', 0), -1);
        ordered(bytes(2, 'a', 'b', 0), bytes(1, 'a', 1, 'b', 0), -1);
        ordered(nameOf(255, 'a'), nameOf(254, 'a'), 1);
        ordered(all(labels("a.".repeat(127)), bytes(0)), all(labels("a.".repeat(126)), bytes(0)), 1);
    }

    private static void counts() {
        by("17: Else -1");
        WireMessages x = new WireMessages();
        int[] others = {-1, 4, 5, 65_536, Integer.MAX_VALUE, Integer.MIN_VALUE};
        for (int what : others) {
            due("count(" + what + ")", x.count(what), -1);
        }
        by("17: 1: the length of the MESSAGE that was WRITTEN last; 2: POINTERS in it");
        due("no message", x.count(1), 0);
        due("no pointers", x.count(2), 0);
        add(x, 1, name("a"), 2, name("b.a"));
        x.write(512);
        due("one", x.count(2), 1);
        due("its length", x.count(1), 12 + 13 + 4);
        x.begin(1, 2);
        due("one still", x.count(2), 1);
        x.write(512);
        due("none", x.count(2), 0);
        due("the header alone", x.count(1), 12);
    }
}
