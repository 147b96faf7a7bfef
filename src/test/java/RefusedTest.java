import java.util.NoSuchElementException;

/** Refused calls: each throws what its heading names, the first of several, and changes nothing. */
public final class RefusedTest extends Bench {
    private static final Class<IllegalArgumentException> ARGUMENT = IllegalArgumentException.class;
    private static final Class<IllegalStateException> STATE = IllegalStateException.class;
    private static final Class<NoSuchElementException> NO_SUCH = NoSuchElementException.class;
    private static final Class<IndexOutOfBoundsException> INDEX = IndexOutOfBoundsException.class;
    private static final Class<UnsupportedOperationException> UNSUPPORTED = UnsupportedOperationException.class;
    private static final int[] FAR = {Integer.MIN_VALUE, Integer.MIN_VALUE + 1, -65_536, Integer.MAX_VALUE};
    private static final byte[] FOUR = bytes(1, 2, 3, 4);

    private interface Made {
        WireMessages state();
    }

    private interface Asked {
        long answer(WireMessages x);
    }

    private RefusedTest() {
    }

    public static void main(String[] args) {
        feed();
        end();
        questionOfNoName();
        questionTooMany();
        questionTooManyBytes();
        recordOfNoSection();
        recordOfNoName();
        recordOfOtherData();
        recordTooManyBytes();
        recordTooMany();
        theRoomStays();
        writeOtherLimit();
        writeTooLong();
        back();
        written();
        header();
        told();
        byteOf();
        sameAndOrder();
        finish();
    }

    /** Two objects of the same calls, but one was asked for what is refused: both must look alike. */
    private static void refused(String what, Made made, Class<? extends RuntimeException> want, Asked call) {
        WireMessages x = made.state();
        WireMessages untouched = made.state();
        dueThrow(what, want, () -> call.answer(x));
        dueThrow(what + ", once more", want, () -> call.answer(x));
        dueAlike(what, Sight.of(x), Sight.of(untouched));
        dueAlike(what, Sight.tape(x), Sight.tape(untouched));
    }

    private static void dueAlike(String what, String got, String want) {
        if (!got.equals(want)) {
            tell(what + " changed something: " + got + ", due is " + want);
        }
    }

    /** Something is read, something else is gathered, something else again is written, and this is the tape. */
    private static WireMessages busy(byte[] tape) {
        WireMessages x = new WireMessages();
        lay(x, all(head(1, 2, 2, 0, 0, 0), asked(name("a"), 1, 1), asked(pointer(12), 1, 1)));
        due("a reading with a pointer", x.read(), 0);
        lay(x, all(head(1, 2, 0, 0, 0, 0), bytes(0)));
        due("a reading with a fault", x.read(), 6);
        x.begin(0x1234, 0x8180);
        ask(x, name("q.r"), 1, 1);
        add(x, 1, name("r"), 2, name("s.r"));
        x.write(512);
        x.begin(0x4321, 0x0100);
        ask(x, name("t"), 28, 3);
        add(x, 2, name("u.t"), 1, FOUR);
        add(x, 3, ROOT, 41, bytes(9));
        lay(x, tape);
        return x;
    }

    private static WireMessages withQuestions(int count, byte[] tape) {
        WireMessages x = new WireMessages();
        byte[] row = head(7, 7, count, 0, 0, 0);
        for (int k = 0; k < count; k++) {
            row = all(row, asked(ROOT, k, 1));
        }
        lay(x, row);
        due(count + " questions", x.read(), 0);
        lay(x, tape);
        return x;
    }

    /** As many bytes of names and data are gathered. */
    private static WireMessages withBytes(int count, byte[] tape) {
        WireMessages x = new WireMessages();
        byte[] row = all(head(7, 7, 1, 255, 1, 0), asked(nameOf(255, 'm'), 1, 1));
        for (int k = 0; k < 255; k++) {
            row = all(row, entry(pointer(12), 99, 1, 1, bytes()));
        }
        lay(x, all(row, entry(ROOT, 99, 1, 1, filled(count - 256 * 255 - 1, 5))));
        due(count + " bytes", x.read(), 0);
        lay(x, tape);
        return x;
    }

    /** More calls than an object is used for: the document's limit can't be reached with less. */
    private static WireMessages withRecords(int count, byte[] tape) {
        WireMessages x = new WireMessages();
        lay(x, all(head(7, 7, 0, 1, 1, count - 2), new byte[11 * count]));
        due(count + " records", x.read(), 0);
        lay(x, tape);
        return x;
    }

    /** The tape is a message of 65,535 bytes, cut to this length and fed again. */
    private static WireMessages withTape(int length, int feeds) {
        WireMessages x = new WireMessages();
        lay(x, wide(243, 84));
        due("a wide message", x.read(), 0);
        due("written again", x.write(65_535), 65_535);
        due("is the tape", x.back(-1, 0), 65_535);
        x.end(length);
        for (int k = 1; k <= feeds; k++) {
            due("feed behind it", x.feed(k, 2, 3, 4, 5), length + 20 * k);
        }
        return x;
    }

    private static void feed() {
        by("2: IllegalStateException: there is no room for 20");
        due("room for just 20", withTape(65_516, 0).feed(1, 2, 3, 4, 5), 65_536);
        due("room for 21", withTape(65_515, 0).feed(1, 2, 3, 4, 5), 65_535);
        refused("feed with room for 19", () -> withTape(65_517, 0), STATE, x -> x.feed(1, 2, 3, 4, 5));
        refused("feed with room for 1", () -> withTape(65_535, 0), STATE, x -> x.feed(0, 0, 0, 0, 0));
        refused("feed to a full tape", () -> withTape(65_516, 1), STATE, x -> x.feed(-1, -1, -1, -1, -1));
    }

    private static void end() {
        by("3: IllegalArgumentException: n is not 0 .. its length");
        due("end at the length", busy(filled(33, 70)).end(33), 33);
        due("end at 0", busy(filled(33, 70)).end(0), 0);
        due("end of an empty tape", busy(bytes()).end(0), 0);
        refused("end behind the length", () -> busy(filled(33, 70)), ARGUMENT, x -> x.end(34));
        refused("end of -1", () -> busy(filled(33, 70)), ARGUMENT, x -> x.end(-1));
        refused("end of an empty tape at 1", () -> busy(bytes()), ARGUMENT, x -> x.end(1));
        refused("end of an empty tape at -1", () -> busy(bytes()), ARGUMENT, x -> x.end(-1));
        due("end of a full tape", withTape(65_516, 1).end(65_536), 65_536);
        refused("end behind a full tape", () -> withTape(65_516, 1), ARGUMENT, x -> x.end(65_537));
        for (int far : FAR) {
            refused("end of " + far, () -> busy(filled(33, 70)), ARGUMENT, x -> x.end(far));
        }
    }

    private static void noName(String what, byte[] tape) {
        refused("question of " + what, () -> busy(tape), ARGUMENT, x -> x.question(1, 1));
    }

    private static void questionOfNoName() {
        by("7: IllegalArgumentException: the TAPE is not just a name");
        due("of the root", busy(ROOT).question(1, 1), 2);
        due("of the longest name", busy(nameOf(255, 'x')).question(1, 1), 2);
        noName("no bytes", bytes());
        noName("a label without an end", label("a"));
        noName("half a label", bytes(2, 97));
        noName("a length byte alone", bytes(1));
        noName("one byte behind the root", bytes(0, 0));
        noName("one byte behind a name", all(name("a"), bytes(0)));
        noName("a label of 64", all(bytes(64), filled(64, 97), ROOT));
        noName("a length byte of 191", all(bytes(191), filled(191, 97), ROOT));
        noName("a pointer", all(name("a"), pointer(0)));
        noName("a label and a pointer", all(label("a"), pointer(0)));
        noName("half a pointer", bytes(192));
        noName("256 bytes", nameOf(256, 'x'));
    }

    private static void questionTooMany() {
        by("7: IllegalStateException: there are 100");
        due("the 100th", withQuestions(99, name("a")).question(1, 1), 100);
        refused("the 101st", () -> withQuestions(100, name("a")), STATE, x -> x.question(1, 1));
        refused("the 101st of no name", () -> withQuestions(100, bytes(1, 97)), ARGUMENT, x -> x.question(1, 1));
        due("a record beside 100", withQuestions(100, ROOT).record(1, 99, 1, 1), 1);
    }

    private static void questionTooManyBytes() {
        by("7: IllegalStateException: what is gathered would have more than 65,536 bytes of names and data");
        due("of 65,536 bytes", withBytes(65_533, name("a")).question(1, 1), 2);
        due("of 65,536 bytes with the root", withBytes(65_535, ROOT).question(1, 1), 2);
        refused("of 65,537 bytes", () -> withBytes(65_534, name("a")), STATE, x -> x.question(1, 1));
        refused("of 65,537 bytes with the root", () -> withBytes(65_536, ROOT), STATE, x -> x.question(1, 1));
        refused("of no name", () -> withBytes(65_536, bytes()), ARGUMENT, x -> x.question(1, 1));
    }

    private static void recordOfNoSection() {
        by("8: NoSuchElementException, first: another SECTION (0, too)");
        for (int section = 1; section <= 3; section++) {
            due("section " + section, busy(ROOT).record(section, 99, 1, 1), section == 1 ? 1 : 2);
        }
        for (int section : new int[] {-1, 0, 4}) {
            refused("a good one in " + section, () -> busy(ROOT), NO_SUCH, x -> x.record(section, 99, 1, 1));
            refused("no name in " + section, () -> busy(bytes(70)), NO_SUCH, x -> x.record(section, 99, 1, 1));
            refused("too much in " + section, () -> withBytes(65_536, ROOT), NO_SUCH, x -> x.record(section, 99, 1, 1));
        }
        for (int far : new int[] {65_537, 65_538, -65_535, Integer.MIN_VALUE, Integer.MAX_VALUE}) {
            refused("a good one in " + far, () -> busy(ROOT), NO_SUCH, x -> x.record(far, 99, 1, 1));
        }
    }

    private static void recordOfNoName() {
        by("8: IllegalArgumentException: the TAPE is no name");
        byte[][] tapes = {bytes(), label("a"), bytes(2, 97), bytes(64), all(bytes(64), filled(64, 97), ROOT), bytes(191),
            bytes(192), pointer(0), all(label("a"), pointer(0), ROOT), nameOf(256, 'x')};
        for (byte[] tape : tapes) {
            for (int section = 1; section <= 3; section++) {
                int to = section;
                refused("in " + to, () -> busy(tape), ARGUMENT, x -> x.record(to, 99, 1, 1));
            }
        }
        refused("before too much", () -> withBytes(65_536, bytes(1)), ARGUMENT, x -> x.record(1, 99, 1, 1));
    }

    private static void otherData(int type, byte[] name, byte[] data) {
        refused("type " + type + " with " + data.length + " bytes", () -> busy(all(name, data)), ARGUMENT,
                x -> x.record(1, type, 1, 1));
        refused("type " + (type | 0x70000) + " with " + data.length + " bytes", () -> busy(all(name, data)), ARGUMENT,
                x -> x.record(3, type | 0x70000, 1, 1));
    }

    private static void recordOfOtherData() {
        by("8: IllegalArgumentException: the data is not as its type says (names in it without POINTERS)");
        otherData(1, name("a"), filled(3, 1));
        otherData(1, name("a"), filled(5, 1));
        otherData(28, name("a"), filled(15, 1));
        otherData(28, name("a"), filled(17, 1));
        otherData(16, name("a"), bytes());
        otherData(16, name("a"), bytes(1));
        otherData(41, name("a"), bytes());
        for (int type : new int[] {2, 5, 12, 15, 6, 33}) {
            byte[] before = filled(type == 15 ? 2 : type == 33 ? 6 : 0, 1);
            byte[] behind = filled(type == 6 ? 20 : 0, 1);
            byte[] other = type == 6 ? ROOT : bytes();
            otherData(type, name("a"), all(before, pointer(0), other, behind));
            otherData(type, name("a"), all(before, label("b"), pointer(0), other, behind));
            otherData(type, name("a"), all(before, other, name("b"), behind, ROOT));
            otherData(type, name("a"), all(before, other, label("b")));
            otherData(type, name("a"), all(before, other));
            otherData(type, name("a"), all(before, other, nameOf(256, 'x'), behind));
        }
        refused("before too much", () -> withBytes(65_536, bytes(0, 1)), ARGUMENT, x -> x.record(2, 1, 1, 1));
    }

    private static void recordTooManyBytes() {
        by("8: IllegalStateException: what is gathered would have more than 65,536 bytes of names and data");
        due("of 65,536 bytes", withBytes(65_529, all(name("a"), FOUR)).record(1, 1, 1, 1), 256);
        refused("of 65,537 bytes", () -> withBytes(65_530, all(name("a"), FOUR)), STATE, x -> x.record(1, 1, 1, 1));
        refused("of one byte more", () -> withBytes(65_536, ROOT), STATE, x -> x.record(3, 41, 1, 1));
        refused("the longest beside one byte", () -> {
            WireMessages x = withTape(65_516, 1);
            due("a byte is gathered", askBeside(x), 1);
            return x;
        }, STATE, x -> x.record(1, 99, 1, 1));
    }

    /** A question of the root, and the tape again as it was: full. */
    private static int askBeside(WireMessages x) {
        x.begin(0, 0);
        x.end(1);
        int questions = x.question(1, 1);
        x.back(-1, 0);
        x.end(65_516);
        x.feed(1, 2, 3, 4, 5);
        return questions;
    }

    private static void recordTooMany() {
        by("8: IllegalStateException: there are 1,000 RECORDS");
        due("the 1,000th", withRecords(999, ROOT).record(3, 99, 1, 1), 998);
        for (int section = 1; section <= 3; section++) {
            int to = section;
            refused("the 1,001st in " + to, () -> withRecords(1000, ROOT), STATE, x -> x.record(to, 99, 1, 1));
        }
        refused("of no name", () -> withRecords(1000, bytes(1)), ARGUMENT, x -> x.record(1, 99, 1, 1));
        refused("in no section", () -> withRecords(1000, bytes(1)), NO_SUCH, x -> x.record(0, 99, 1, 1));
        due("a question beside 1,000", withRecords(1000, ROOT).question(1, 1), 1);
    }

    /** What was refused takes nothing of the room for names and data: all of it can still be used. */
    private static void theRoomStays() {
        by("1: a call that throws changes nothing");
        WireMessages x = withBytes(65_533, nameOf(255, 'x'));
        dueThrow("a question too long", STATE, () -> x.question(1, 1));
        dueThrow("a record too long", STATE, () -> x.record(1, 99, 1, 1));
        dueThrow("no data for a name", ARGUMENT, () -> x.record(1, 2, 1, 1));
        x.end(254);
        dueThrow("no name", ARGUMENT, () -> x.question(1, 1));
        dueThrow("no name and data", ARGUMENT, () -> x.record(1, 99, 1, 1));
        x.end(0);
        due("a question of 3 bytes", ask(x, name("a"), 1, 1), 2);
        WireMessages y = withQuestions(100, nameOf(255, 'x'));
        for (int k = 0; k < 260; k++) {
            dueThrow("the 101st", STATE, () -> y.question(1, 1));
        }
        due("a record of 255 bytes", y.record(1, 99, 1, 1), 1);
        due("the bytes of its name", y.told(1, 0, 2), 255);
    }

    private static void writeOtherLimit() {
        by("9: IllegalArgumentException: another limit");
        due("the lowest limit", new WireMessages().write(12), 12);
        due("the highest limit", busy(bytes()).write(65_535), 12 + 7 + 18 + 12);
        for (int limit : new int[] {11, 0, -1, 65_536, 65_536 + 512}) {
            refused("limit " + limit, () -> busy(name("a")), ARGUMENT, x -> x.write(limit));
        }
        for (int far : FAR) {
            refused("limit " + far, () -> busy(name("a")), ARGUMENT, x -> x.write(far));
        }
        refused("before too long", RefusedTest::withLongest, ARGUMENT, x -> x.write(65_536));
        refused("before too long, with 11", RefusedTest::withLongest, ARGUMENT, x -> x.write(11));
    }

    /** A record that is never left out, with 65,535 bytes of data. */
    private static WireMessages withLongest() {
        WireMessages x = withTape(65_516, 1);
        x.begin(3, 4);
        due("the longest", x.record(3, 41, 1, 1), 1);
        return x;
    }

    private static void writeTooLong() {
        by("9: UnsupportedOperationException: the header and what is never left out are longer");
        due("just not longer", busy(name("a")).write(24), 24);
        refused("one byte longer", () -> busy(name("a")), UNSUPPORTED, x -> x.write(23));
        refused("much longer", () -> busy(name("a")), UNSUPPORTED, x -> x.write(12));
        refused("longer than any limit", RefusedTest::withLongest, UNSUPPORTED, x -> x.write(65_535));
        refused("two of them, one byte longer", () -> {
            WireMessages x = busy(bytes());
            add(x, 3, ROOT, 41, bytes(1, 2));
            return x;
        }, UNSUPPORTED, x -> x.write(12 + 12 + 13 - 1));
    }

    private static void back() {
        by("10: IndexOutOfBoundsException: no such byte");
        int length = busy(bytes()).count(1);
        due("the first byte", busy(name("a")).back(0, 1), length);
        due("the last byte", busy(name("a")).back(length - 1, 1), length);
        refused("behind the last", () -> busy(name("a")), INDEX, x -> x.back(length, 1));
        refused("before -1", () -> busy(name("a")), INDEX, x -> x.back(-2, 0));
        refused("of no message", () -> withQuestions(1, name("a")), INDEX, x -> x.back(0, 0));
        refused("before -1 of no message", () -> withQuestions(1, name("a")), INDEX, x -> x.back(-2, 0));
        for (int far : FAR) {
            refused("byte " + far, () -> busy(name("a")), INDEX, x -> x.back(far, 1));
        }
    }

    private static void written() {
        by("11: IndexOutOfBoundsException: there is none");
        int length = busy(bytes()).count(1);
        due("the first", busy(name("a")).written(0), 0x12);
        due("the last", busy(name("a")).written(length - 1), 14);
        refused("behind the last", () -> busy(name("a")), INDEX, x -> x.written(length));
        refused("before the first", () -> busy(name("a")), INDEX, x -> x.written(-1));
        refused("of no message", () -> withQuestions(1, name("a")), INDEX, x -> x.written(0));
        for (int far : FAR) {
            refused("byte " + far, () -> busy(name("a")), INDEX, x -> x.written(far));
        }
    }

    private static void header() {
        by("12: IllegalArgumentException: another what");
        due("the first what", busy(bytes()).header(0), 0x4321);
        due("the last what", busy(bytes()).header(5), 1);
        refused("-1", () -> busy(name("a")), ARGUMENT, x -> x.header(-1));
        refused("6", () -> busy(name("a")), ARGUMENT, x -> x.header(6));
        for (int far : FAR) {
            refused("" + far, () -> busy(name("a")), ARGUMENT, x -> x.header(far));
        }
    }

    private interface OfOne {
        long answer(WireMessages x, int section, int k);
    }

    /** There is one question, no record in 1, and one record in 2 and in 3. */
    private static void noSuchOnes(String what, OfOne call) {
        int[][] ones = {{-1, 0}, {0, -1}, {0, 1}, {1, -1}, {1, 0}, {2, -1}, {2, 1}, {3, -1}, {3, 1}, {4, 0}};
        for (int[] one : ones) {
            refused(what + one[0] + "/" + one[1], () -> busy(name("a")), NO_SUCH, x -> call.answer(x, one[0], one[1]));
        }
        for (int far : FAR) {
            refused(what + far + "/0", () -> busy(name("a")), NO_SUCH, x -> call.answer(x, far, 0));
            refused(what + "2/" + far, () -> busy(name("a")), NO_SUCH, x -> call.answer(x, 2, far));
        }
    }

    private static void told() {
        by("13: NoSuchElementException, first: no such one");
        noSuchOnes("told of ", (x, section, k) -> x.told(section, k, 0));
        noSuchOnes("told, another what, of ", (x, section, k) -> x.told(section, k, 5));
        by("13: IllegalArgumentException: another what (also 3 and 4 of a question)");
        due("2 of a question", busy(bytes()).told(0, 0, 2), 3);
        due("4 of a record", busy(bytes()).told(2, 0, 4), 60);
        for (int what : new int[] {-1, 3, 4, 5}) {
            refused(what + " of a question", () -> busy(name("a")), ARGUMENT, x -> x.told(0, 0, what));
        }
        for (int section = 2; section <= 3; section++) {
            int of = section;
            refused("-1 of a record", () -> busy(name("a")), ARGUMENT, x -> x.told(of, 0, -1));
            refused("5 of a record", () -> busy(name("a")), ARGUMENT, x -> x.told(of, 0, 5));
        }
        for (int far : FAR) {
            refused(far + " of a question", () -> busy(name("a")), ARGUMENT, x -> x.told(0, 0, far));
            refused(far + " of a record", () -> busy(name("a")), ARGUMENT, x -> x.told(3, 0, far));
        }
    }

    private static void byteOf() {
        by("14: NoSuchElementException: no such one");
        noSuchOnes("byte 0 of ", (x, section, k) -> x.byteOf(section, k, 0));
        noSuchOnes("byte -1 of ", (x, section, k) -> x.byteOf(section, k, -1));
        by("14: IndexOutOfBoundsException: no such byte");
        due("the last byte of a question", busy(bytes()).byteOf(0, 0, 2), 0);
        due("the last byte of a record", busy(bytes()).byteOf(2, 0, 8), 4);
        due("the last byte behind the root", busy(bytes()).byteOf(3, 0, 1), 9);
        refused("behind a question's name", () -> busy(name("a")), INDEX, x -> x.byteOf(0, 0, 3));
        refused("behind a record's data", () -> busy(name("a")), INDEX, x -> x.byteOf(2, 0, 9));
        refused("behind the data of 41", () -> busy(name("a")), INDEX, x -> x.byteOf(3, 0, 2));
        refused("before a question", () -> busy(name("a")), INDEX, x -> x.byteOf(0, 0, -1));
        refused("before a record", () -> busy(name("a")), INDEX, x -> x.byteOf(2, 0, -1));
        for (int far : FAR) {
            refused("byte " + far, () -> busy(name("a")), INDEX, x -> x.byteOf(2, 0, far));
        }
    }

    private static void sameAndOrder() {
        by("15: NoSuchElementException: no such one");
        noSuchOnes("first ", (x, section, k) -> x.same(section, k, 0, 0) ? 1 : 0);
        noSuchOnes("second ", (x, section, k) -> x.same(0, 0, section, k) ? 1 : 0);
        noSuchOnes("both ", (x, section, k) -> x.same(section, k, section, k) ? 1 : 0);
        by("16: NoSuchElementException: no such one");
        noSuchOnes("first ", (x, section, k) -> x.order(section, k, 0, 0));
        noSuchOnes("second ", (x, section, k) -> x.order(0, 0, section, k));
        noSuchOnes("both ", (x, section, k) -> x.order(section, k, section, k));
    }
}
