import java.util.Arrays;

/** Readings (promises 4, 5 and 17) with each fault and where it is told, and the edges behind which there is none. */
public final class ReadingTest {
    private static final byte[] FOUR = Bench.bytes(1, 2, 3, 4);
    private static final byte[] FIXED = Bench.bytes(0, 1, 0, 1);

    private ReadingTest() {
    }

    public static void main(String[] args) {
        endsTooEarly();
        lengthBytes();
        pointers();
        longNames();
        dataSizes();
        namesInData();
        namesThatLeaveData();
        rootOnly();
        bytesBehind();
        manyQuestions();
        manyRecords();
        manyBytes();
        longestTape();
        Bench.finish();
    }

    private static WireMessages readDue(String what, byte[] row, int fault, int place) {
        WireMessages x = new WireMessages();
        Bench.lay(x, row);
        Bench.due(what + ": read()", x.read(), fault);
        Bench.due(what + ": faultAt()", x.faultAt(), place);
        Bench.due(what + ": the tape", x.count(0), 0);
        return x;
    }

    private static byte[] asking(byte[]... parts) {
        return Bench.all(Bench.head(1, 2, 1, 0, 0, 0), Bench.all(parts));
    }

    private static byte[] answering(byte[]... parts) {
        return Bench.all(Bench.head(1, 2, 0, 1, 0, 0), Bench.all(parts));
    }

    /** A record under the root whose data begins at 23, and bytes behind it. */
    private static byte[] rooted(int type, byte[] data, byte[] behind) {
        return answering(Bench.entry(Bench.bytes(0), type, 1, 5, data), behind);
    }

    private static void endsTooEarly() {
        byte[] whole = Bench.all(Bench.head(1, 2, 1, 1, 0, 0), Bench.asked(Bench.name("ab"), 1, 1),
                Bench.entry(Bench.pointer(12), 1, 1, 1, FOUR));
        // The name is at 12: length byte, label of two, 0; type and class at 16; a pointer at 20; type to length at 22; data at 32.
        for (int length = 0; length < whole.length; length++) {
            int place = length < 12 ? 0 : length == 12 ? 12 : length < 15 ? 13 : length == 15 ? 15 : length < 20 ? 16
                    : length < 22 ? 20 : length < 32 ? 22 : 32;
            readDue("cut to " + length, Arrays.copyOf(whole, length), 1, place);
        }
        readDue("whole", whole, 0, -1);
        byte[] behindPointer = Bench.all(Bench.head(0x0300, 0, 0, 1, 0, 0), Bench.pointer(0), Bench.bytes(0, 1));
        readDue("a record's fixed part, cut", behindPointer, 1, 14);
        byte[] runsOut = Bench.all(Bench.head(0x1400, 0, 1, 0, 0, 0), Bench.pointer(0), Bench.filled(6, 0));
        readDue("a label behind a pointer runs out", runsOut, 1, 1);
        byte[] runsOutLater = Bench.all(Bench.head(0x1300, 0, 1, 0, 0, 0), Bench.pointer(0), Bench.filled(6, 0));
        readDue("a length byte behind a pointer is missing", runsOutLater, 1, 20);
        readDue("data by its length", answering(Bench.bytes(0, 0, 16, 0, 1, 0, 0, 0, 0, 0, 2, 64)), 1, 23);
    }

    private static void lengthBytes() {
        for (int lead = 1; lead < 192; lead++) {
            byte[] row = asking(Bench.bytes(1, 'a', lead), Bench.filled(lead, 7), Bench.bytes(0), FIXED);
            readDue("length byte " + lead, row, lead < 64 ? 0 : 2, lead < 64 ? -1 : 14);
        }
        readDue("a bad length byte at the end", asking(Bench.bytes(64)), 2, 12);
        byte[] row = Bench.all(Bench.head(0, 0x80, 1, 0, 0, 0), Bench.pointer(3), FIXED);
        readDue("a bad length byte behind a pointer", row, 2, 3);
    }

    private static void pointers() {
        byte[] first = Bench.asked(Bench.name("a.b"), 1, 1);
        byte[] two = Bench.head(0, 0, 2, 0, 0, 0);
        for (int place : new int[] {12, 14, 16}) {
            WireMessages x = readDue("to " + place, Bench.all(two, first, Bench.pointer(place), FIXED), 0, -1);
            Bench.dueBytes("name at " + place, Bench.nameAndData(x, 0, 1),
                    place == 12 ? Bench.name("a.b") : place == 14 ? Bench.name("b") : Bench.name(""));
            Bench.due("pointers followed", x.count(3), 1);
        }
        readDue("to its own beginning", Bench.all(two, first, Bench.pointer(21), FIXED), 3, 21);
        readDue("to its own beginning with a label", Bench.all(two, first, Bench.label("x"), Bench.pointer(21), FIXED), 3, 23);
        readDue("to its own label's byte", Bench.all(two, first, Bench.label("x"), Bench.pointer(22), FIXED), 3, 23);
        readDue("forward", Bench.all(two, first, Bench.pointer(16383), FIXED), 3, 21);
        readDue("just before its name", Bench.all(two, first, Bench.pointer(20), FIXED), 1, 23);
        byte[] header = Bench.all(Bench.head(0x0141, 0, 1, 0, 0, 0), Bench.pointer(0), FIXED);
        Bench.dueBytes("into the header", Bench.nameAndData(readDue("into the header", header, 0, -1), 0, 0), Bench.name("A"));
        readDue("the highest two bits alone", Bench.all(two, first, Bench.bytes(255, 255), FIXED), 3, 21);
        chains(first);
    }

    private static void chains(byte[] first) {
        byte[] three = Bench.head(0, 0, 3, 0, 0, 0);
        byte[] down = Bench.all(three, first, Bench.pointer(14), FIXED, Bench.pointer(21), FIXED);
        Bench.due("a chain", readDue("a chain down", down, 0, -1).count(3), 1 + 2);
        byte[] level = Bench.all(Bench.head(0, 0, 1, 0, 0, 0), Bench.bytes(0));
        readDue("no room", level, 1, 13);
        // The name of the record goes by a pointer to other data, where a pointer leads not below that place.
        byte[] blob = Bench.entry(Bench.bytes(0), 99, 1, 1, Bench.all(Bench.label("x"), Bench.pointer(23), Bench.pointer(25)));
        byte[] one = Bench.all(Bench.head(0, 0, 0, 2, 0, 0), blob);
        byte[] rest = Bench.bytes(0, 1, 0, 1, 0, 0, 0, 0, 0, 4, 1, 2, 3, 4);
        readDue("the second to the place of the first", Bench.all(one, Bench.pointer(23), rest), 3, 25);
        readDue("the third to the place of the second", Bench.all(one, Bench.pointer(25), rest), 3, 25);
        readDue("the fourth to the place of the third", Bench.all(one, Bench.pointer(27), rest), 3, 25);
        byte[] below = Bench.entry(Bench.bytes(0), 99, 1, 1, Bench.all(Bench.name("x"), Bench.pointer(23), Bench.pointer(26)));
        byte[] many = Bench.all(Bench.head(0, 0, 0, 2, 0, 0), below, Bench.pointer(28), rest);
        WireMessages x = readDue("three pointers down", many, 0, -1);
        Bench.due("three pointers", x.count(3), 3);
        Bench.due("its name", x.told(1, 1, 2), 3);
    }

    private static void longNames() {
        readDue("255 bytes", asking(Bench.nameOf(255, 'n'), FIXED), 0, -1);
        readDue("256 bytes", asking(Bench.nameOf(256, 'n'), FIXED), 4, 12);
        byte[] three = Bench.all(Bench.filled(64, 63), Bench.filled(64, 63), Bench.filled(64, 63));
        readDue("shown by the length byte", asking(three, Bench.bytes(62)), 4, 12);
        readDue("not shown by the length byte", asking(three, Bench.bytes(61)), 1, 12 + 193);
        readDue("shown before the label's end is missed", asking(three, Bench.bytes(63, 1)), 4, 12);
        byte[] by = Bench.all(Bench.head(0, 0, 2, 0, 0, 0), Bench.asked(Bench.nameOf(255, 'n'), 1, 1));
        readDue("by a pointer 255 bytes", Bench.all(by, Bench.pointer(12), FIXED), 0, -1);
        readDue("by a pointer 257 bytes", Bench.all(by, Bench.label("a"), Bench.pointer(12), FIXED), 4, 12 + 259);
        byte[] fits = Bench.all(Bench.head(0, 0, 2, 0, 0, 0), Bench.asked(Bench.nameOf(253, 'n'), 1, 1));
        readDue("by a pointer 255 bytes again", Bench.all(fits, Bench.label("a"), Bench.pointer(12), FIXED), 0, -1);
        readDue("by a pointer 256 bytes", Bench.all(fits, Bench.label("ab"), Bench.pointer(12), FIXED), 4, 12 + 257);
        readDue("in data", rooted(2, Bench.nameOf(256, 'n'), Bench.bytes()), 4, 23);
        readDue("behind two bytes of data", rooted(15, Bench.all(Bench.two(1), Bench.nameOf(256, 'n')), Bench.bytes()), 4, 25);
    }

    private static void dataSizes() {
        for (int size = 0; size < 30; size++) {
            byte[] data = Bench.filled(size, 0);
            readDue("type 1 with " + size, rooted(1, data, Bench.bytes()), size == 4 ? 0 : 5, size == 4 ? -1 : 23);
            readDue("type 28 with " + size, rooted(28, data, Bench.bytes()), size == 16 ? 0 : 5, size == 16 ? -1 : 23);
            readDue("type 16 with " + size, rooted(16, data, Bench.bytes()), size > 0 ? 0 : 5, size > 0 ? -1 : 23);
            readDue("type 99 with " + size, rooted(99, data, Bench.bytes()), 0, -1);
            readDue("type 41 with " + size, rooted(41, data, Bench.bytes()), 0, -1);
            byte[] soa = Bench.all(Bench.bytes(0, 0), data);
            readDue("type 6 with " + size, rooted(6, soa, Bench.bytes()), size == 20 ? 0 : 5, size == 20 ? -1 : 23);
        }
        readDue("a string too long", rooted(16, Bench.bytes(0, 2, 1), Bench.bytes()), 5, 23);
        readDue("two strings", rooted(16, Bench.bytes(2, 9, 9, 0), Bench.bytes()), 0, -1);
        readDue("type 15 with 1", rooted(15, Bench.bytes(0), Bench.bytes()), 5, 23);
        readDue("type 33 with 5", rooted(33, Bench.bytes(0, 0, 0, 0, 0), Bench.bytes()), 5, 23);
        readDue("type 33", rooted(33, Bench.all(Bench.filled(6, 255), Bench.name("a")), Bench.bytes()), 0, -1);
        byte[] second = Bench.all(Bench.head(0, 0, 1, 0, 1, 1), Bench.asked(Bench.name("q"), 1, 1),
                Bench.entry(Bench.name("n"), 2, 1, 1, Bench.name("m")), Bench.entry(Bench.name("r"), 1, 1, 1, Bench.bytes(1)));
        readDue("in section 3", second, 5, 12 + 7 + 16 + 13);
    }

    private static void namesInData() {
        byte[] two = Bench.all(Bench.head(0, 0, 1, 1, 0, 0), Bench.asked(Bench.name("a.b"), 1, 1));
        byte[] owner = Bench.pointer(12);
        byte[] sharing = Bench.all(Bench.label("c"), Bench.pointer(14));
        for (int type : new int[] {2, 5, 12}) {
            WireMessages x = readDue("type " + type, Bench.all(two, Bench.entry(owner, type, 1, 1, sharing)), 0, -1);
            Bench.dueBytes("shown", Bench.nameAndData(x, 1, 0), Bench.all(Bench.name("a.b"), Bench.name("c.b")));
            Bench.due("bytes of data", x.told(1, 0, 3), 5);
            Bench.due("followed", x.count(3), 2);
            readDue("type " + type + " with bytes left",
                    Bench.all(two, Bench.entry(owner, type, 1, 1, Bench.all(sharing, Bench.bytes(0)))), 5, 33);
        }
        byte[] soa = Bench.all(sharing, Bench.pointer(33), Bench.filled(20, 8));
        WireMessages y = readDue("type 6", Bench.all(two, Bench.entry(owner, 6, 1, 1, soa)), 0, -1);
        Bench.dueBytes("type 6 shown", Bench.nameAndData(y, 1, 0),
                Bench.all(Bench.name("a.b"), Bench.name("c.b"), Bench.name("c.b"), Bench.filled(20, 8)));
        readDue("type 6 cut", Bench.all(two, Bench.entry(owner, 6, 1, 1, Bench.all(sharing, sharing, Bench.filled(19, 8)))), 5, 33);
        readDue("to its own data", Bench.all(two, Bench.entry(owner, 15, 1, 1, Bench.all(Bench.bytes(0, 0), Bench.pointer(33)))), 0, -1);
        readDue("to its own name in data", Bench.all(two, Bench.entry(owner, 15, 1, 1, Bench.all(Bench.bytes(0, 0), Bench.pointer(35)))), 3, 35);
        readDue("a bad length byte", Bench.all(two, Bench.entry(owner, 2, 1, 1, Bench.bytes(1, 97, 100, 0))), 2, 35);
        byte[] service = Bench.all(Bench.filled(6, 0), sharing);
        readDue("33 with a pointer", Bench.all(two, Bench.entry(owner, 33, 1, 1, service)), 5, 33);
        byte[] forward = Bench.all(Bench.filled(6, 0), Bench.pointer(500));
        readDue("33 with a pointer forward", Bench.all(two, Bench.entry(owner, 33, 1, 1, forward)), 3, 39);
        readDue("99 with what looks like a pointer", Bench.all(two, Bench.entry(owner, 99, 1, 1, Bench.pointer(500))), 0, -1);
    }

    private static void namesThatLeaveData() {
        byte[] one = Bench.label("a");
        readDue("the 0 behind the data", rooted(2, one, Bench.bytes(0)), 5, 23);
        readDue("the 0 behind the message", rooted(2, one, Bench.bytes()), 1, 25);
        readDue("a label behind the data", rooted(2, one, Bench.name("b")), 5, 23);
        readDue("half a label behind the data", rooted(2, Bench.bytes(2, 97), Bench.bytes(97, 0)), 5, 23);
        readDue("half a label behind the message", rooted(2, Bench.bytes(2, 97), Bench.bytes()), 1, 24);
        readDue("a label behind data and message", rooted(2, Bench.bytes(9, 97), Bench.bytes(97, 0)), 1, 24);
        readDue("a pointer behind the data", rooted(2, one, Bench.pointer(12)), 5, 23);
        readDue("a bad pointer behind the data", rooted(2, one, Bench.pointer(500)), 5, 23);
        readDue("half a pointer behind the data", rooted(2, Bench.bytes(1, 97, 192), Bench.bytes(12)), 5, 23);
        readDue("half a pointer behind the message", rooted(2, Bench.bytes(1, 97, 192), Bench.bytes()), 1, 25);
        readDue("no data for a name", rooted(2, Bench.bytes(), Bench.bytes(0)), 5, 23);
        readDue("no data and no message for a name", rooted(2, Bench.bytes(), Bench.bytes()), 1, 23);
        readDue("a bad length byte behind the data", rooted(2, one, Bench.bytes(64)), 2, 25);
        readDue("behind two bytes", rooted(15, Bench.bytes(0, 0), Bench.bytes(0)), 5, 23);
        readDue("the second name of two", rooted(6, Bench.bytes(0), Bench.filled(30, 0)), 5, 23);
        // Behind a pointer the name may stand anywhere: here in its own data and beyond.
        byte[] through = Bench.all(Bench.head(0, 0, 0, 1, 0, 0), Bench.bytes(0), Bench.bytes(0, 15, 0, 1, 0, 0, 0, 0, 0, 4),
                Bench.bytes(1, 0), Bench.pointer(20));
        readDue("a pointer to before its data", through, 0, -1);
        byte[] beyond = Bench.all(Bench.head(0, 0, 0, 1, 0, 1), Bench.bytes(0), Bench.bytes(0, 15, 0, 1, 0, 0, 0, 0, 0, 4),
                Bench.bytes(3, 1), Bench.pointer(23), Bench.entry(Bench.bytes(0), 99, 1, 1, Bench.bytes()));
        WireMessages x = readDue("a label behind a pointer, beyond the data", beyond, 0, -1);
        Bench.due("its data", x.told(1, 0, 3), 2 + 5);
    }

    private static void rootOnly() {
        readDue("41 with a name", answering(Bench.entry(Bench.name("a"), 41, 1, 1, FOUR)), 5, 25);
        byte[] byPointer = Bench.all(Bench.head(0, 0, 0, 0, 0, 1), Bench.entry(Bench.pointer(0), 41, 1, 1, FOUR));
        readDue("41 with the root by a pointer", byPointer, 0, -1);
        readDue("41 with data that is missing", answering(Bench.name("a"), Bench.bytes(0, 41, 0, 1, 0, 0, 0, 0, 0, 9)), 1, 25);
        readDue("41 asked for", asking(Bench.name("a"), Bench.bytes(0, 41, 0, 1)), 0, -1);
    }

    private static void bytesBehind() {
        readDue("behind the header", Bench.all(new byte[12], Bench.bytes(0)), 6, 12);
        readDue("behind a question", asking(Bench.name("a"), FIXED, Bench.bytes(1, 2, 3)), 6, 19);
        readDue("behind a record", rooted(1, FOUR, Bench.bytes(0)), 6, 27);
    }

    private static byte[] times(int count, byte[] part) {
        byte[] sum = new byte[count * part.length];
        for (int k = 0; k < count; k++) {
            System.arraycopy(part, 0, sum, k * part.length, part.length);
        }
        return sum;
    }

    private static void manyQuestions() {
        byte[] question = Bench.asked(Bench.bytes(0), 1, 1);
        WireMessages x = readDue("100 questions", Bench.all(Bench.head(0, 0, 100, 0, 0, 0), times(100, question)), 0, -1);
        Bench.due("questions", x.header(2), 100);
        byte[] more = Bench.all(Bench.head(0, 0, 101, 0, 0, 0), times(101, question));
        readDue("101 questions", more, 7, 512);
        readDue("101 questions, the last cut", Arrays.copyOf(more, more.length - 1), 1, 513);
        readDue("65535 questions", Bench.all(Bench.head(0, 0, 65535, 0, 0, 0), times(102, question)), 7, 512);
    }

    /** More calls than an object is used for: the limit of 1,000 is held all the same. */
    private static void manyRecords() {
        byte[] record = Bench.entry(Bench.bytes(0), 99, 1, 1, Bench.bytes());
        WireMessages x = readDue("1000 records", Bench.all(Bench.head(0, 0, 0, 1, 2, 997), times(1000, record)), 0, -1);
        Bench.due("additionals", x.header(5), 997);
        Bench.lay(x, Bench.bytes(0));
        Bench.dueThrow("the 1001st record", IllegalStateException.class, () -> x.record(1, 99, 1, 1));
        Bench.due("the tape", x.count(0), 1);
        Bench.due("answers", x.header(3), 1);
        Bench.due("a question has a place", x.question(1, 1), 1);
        readDue("1001 records", Bench.all(Bench.head(0, 0, 0, 500, 500, 1), times(1001, record)), 7, 12 + 11_000);
    }

    /** 256 names of 255 bytes and one of 256, or of one more byte, with its data. */
    private static byte[] bytesInAll(int lastData) {
        byte[] name = Bench.nameOf(255, 'm');
        byte[] first = Bench.asked(name, 1, 1);
        byte[] pointing = Bench.entry(Bench.pointer(12), 99, 1, 1, Bench.bytes());
        byte[] last = Bench.entry(Bench.bytes(0), 99, 1, 1, Bench.filled(lastData, 1));
        return Bench.all(Bench.head(0, 0, 1, 255, 1, 0), first, times(255, pointing), last);
    }

    private static void manyBytes() {
        int left = 65_536 - 256 * 255 - 1;
        WireMessages x = readDue("65536 bytes", bytesInAll(left), 0, -1);
        Bench.due("byte of the last", x.byteOf(2, 0, left), 1);
        Bench.lay(x, Bench.bytes(0));
        Bench.dueThrow("a question more", IllegalStateException.class, () -> x.question(1, 1));
        Bench.dueThrow("a record more", IllegalStateException.class, () -> x.record(1, 99, 1, 1));
        Bench.dueThrow("first no record", IllegalArgumentException.class, () -> x.record(1, 1, 1, 1));
        Bench.due("the tape", x.count(0), 1);
        Bench.due("authorities", x.header(4), 1);
        readDue("65537 bytes", bytesInAll(left + 1), 7, 12 + 259 + 255 * 12);
        byte[] cut = bytesInAll(left + 1);
        readDue("65537 bytes, cut", Arrays.copyOf(cut, cut.length - 1), 1, cut.length - left - 1);
        WireMessages y = readDue("65535 bytes", bytesInAll(left - 1), 0, -1);
        Bench.due("the root asked for", Bench.ask(y, Bench.bytes(0), 1, 1), 2);
    }

    /** A long message is written, and is the tape then; the feeds behind it are more calls than an object is used for. */
    private static void longestTape() {
        byte[] row = Bench.growing(7, 350);
        WireMessages x = readDue("names across one another", row, 0, -1);
        int length = x.write(65_535);
        if (length < 50_000) {
            Bench.tell("the message is too short for this test: " + length);
        }
        Bench.due("back", x.back(-1, 0), length);
        int fed = length;
        while (fed + 20 <= 65_536) {
            fed += 20;
            Bench.due("feed", x.feed(1, 2, 3, 4, 5), fed);
        }
        Bench.dueThrow("2: no room for 20", IllegalStateException.class, () -> x.feed(1, 2, 3, 4, 5));
        Bench.due("2: the tape after", x.count(0), fed);
        Bench.due("3: end", x.end(length), length);
        Bench.due("read of the long one", x.read(), 0);
        Bench.due("records", x.header(3), 351);
    }
}
