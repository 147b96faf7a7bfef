import java.util.Arrays;

/** The sentences on READING (promises 4, 5 and 17), NAMES, POINTERS and DATA, each on both sides of its edge. */
public final class ReadingTest extends Bench {
    private static final byte[] FIXED = bytes(0, 1, 0, 1);
    private static final byte[] FOUR = bytes(1, 2, 3, 4);
    private static final int[] ONE_NAME = {2, 5, 12, 15, 33};
    /** Where the data of {@link #rooted} begins. */
    private static final int DATA = 23;

    private ReadingTest() {
    }

    public static void main(String[] args) {
        shortHeader();
        shortLengthByte();
        shortLabel();
        shortPointer();
        shortTypeAndClass();
        shortTypeToLength();
        shortData();
        lengthBytes();
        lengthBytesElsewhere();
        pointersBeforeTheirName();
        pointersInData();
        pointersBeforeOneAnother();
        pointersInALongRow();
        pointersInOnePlaceAlone();
        pointersToHighPlaces();
        longNames();
        longNamesByPointer();
        longNamesShown();
        fixedData();
        nameData();
        twoNames();
        strings();
        rootOnly();
        otherData();
        pointersWhereNoneMayBe();
        faultsOfNamesBeforeData();
        namesThatLeaveData();
        namesBehindPointers();
        bytesBehind();
        manyQuestions();
        manyRecords();
        manyBytes();
        whenAllWasRead();
        theFirstFaultEndsIt();
        nothingIsGathered();
        faultAtStays();
        pointersFollowed();
        longestMessages();
        finish();
    }

    private static byte[] asking(byte[]... parts) {
        return all(head(1, 2, 1, 0, 0, 0), all(parts));
    }

    /** A record under the root, and what stands behind it. */
    private static byte[] rooted(int type, byte[] data, byte[]... behind) {
        return all(head(1, 2, 0, 1, 0, 0), entry(ROOT, type, 1, 5, data), all(behind));
    }

    private static int bytesBefore(int type) {
        return type == 15 ? 2 : type == 33 ? 6 : 0;
    }

    /** Data of a type with one name: what comes before the name, and this as the name. */
    private static byte[] around(int type, byte[] name) {
        return all(filled(bytesBefore(type), 1), name);
    }

    private static void cutDue(byte[] whole, int from, int to, int place) {
        for (int length = from; length < to; length++) {
            readDue("cut to " + length, Arrays.copyOf(whole, length), 1, place);
        }
    }

    private static void shortHeader() {
        by("1: the MESSAGE ends too early, inside of the header: where it began");
        cutDue(new byte[12], 0, 12, 0);
        cutDue(filled(12, 255), 0, 12, 0);
        readGood("12 bytes", new byte[12]);
    }

    private static void shortLengthByte() {
        by("1: .. a length byte: where that is not");
        readDue("of a question", asking(), 1, 12);
        readDue("behind a label", asking(label("ab")), 1, 15);
        readDue("of a record", all(head(0, 0, 0, 0, 1, 0)), 1, 12);
        readDue("of a second question", all(head(0, 0, 2, 0, 0, 0), asked(ROOT, 1, 1)), 1, 17);
        readDue("behind a pointer and a label", all(head(0x1300, 0, 1, 0, 0, 0), pointer(0), filled(6, 0)), 1, 20);
        readDue("behind a pointer, one byte less", all(head(0x1200, 0, 2, 0, 0, 0), pointer(0), FIXED, bytes(0)), 1, 19);
        readDue("of a name in data", rooted(2, bytes()), 1, DATA);
        readDue("of a name behind two bytes", rooted(15, bytes(1, 2)), 1, DATA + 2);
        readDue("of a name behind six bytes", rooted(33, filled(6, 0)), 1, DATA + 6);
        readDue("of the second name", rooted(6, name("a")), 1, DATA + 3);
        readGood("it is there", asking(label("ab"), ROOT, FIXED));
    }

    private static void shortLabel() {
        by("1: .. a label: its first byte, for its length byte is there");
        for (int size : new int[] {1, 2, 62, 63}) {
            byte[] whole = asking(label("a"), bytes(size), filled(size, 'b'));
            cutDue(whole, 15, 15 + size, 15);
            readDue("the label is there", whole, 1, 15 + size);
        }
        readDue("of a record", all(head(0, 0, 0, 1, 0, 0), bytes(3, 97, 98)), 1, 13);
        readDue("behind a pointer", all(head(0x1400, 0, 1, 0, 0, 0), pointer(0), filled(6, 0)), 1, 1);
        readDue("in data", rooted(5, bytes(2, 97)), 1, DATA + 1);
    }

    private static void shortPointer() {
        by("1: .. a POINTER: its first byte");
        for (int lead = 192; lead < 256; lead++) {
            readDue("half of " + lead, asking(bytes(lead)), 1, 12);
        }
        readDue("behind a label", asking(label("a"), bytes(192)), 1, 14);
        readDue("in data", rooted(12, bytes(1, 97, 192)), 1, DATA + 2);
        readDue("half of one behind a pointer", all(head(0x10FF, 0, 1, 0, 0, 0), pointer(0), bytes(1, 2, 3, 192)), 1, 17);
        readGood("it is there", all(head(0, 0, 1, 0, 0, 0), pointer(11), FIXED));
    }

    private static void shortTypeAndClass() {
        by("1: .. type and class of a question: where the type began");
        byte[] whole = asking(name("a"), FIXED);
        cutDue(whole, 15, 19, 15);
        readGood("they are there", whole);
        cutDue(all(head(0, 0, 1, 0, 0, 0), pointer(4), FIXED), 14, 18, 14);
    }

    private static void shortTypeToLength() {
        by("1: .. type to length of a RECORD: where the type began");
        for (int section = 1; section <= 3; section++) {
            int[] counts = {section == 1 ? 1 : 0, section == 2 ? 1 : 0, section == 3 ? 1 : 0};
            byte[] whole = all(head(0, 0, 0, counts[0], counts[1], counts[2]), entry(name("a"), 99, 1, 1, bytes()));
            cutDue(whole, 15, 25, 15);
            readGood("they are there", whole);
        }
    }

    private static void shortData() {
        by("1: .. the data by its length: where the data began");
        for (int type : new int[] {0, 1, 2, 5, 6, 12, 15, 16, 28, 33, 41, 99, 65_535}) {
            byte[] whole = rooted(type, filled(30, 0));
            cutDue(whole, DATA, DATA + 30, DATA);
        }
        readGood("it is there", rooted(99, filled(30, 0)));
        byte[] longest = bytes(0, 99, 0, 1, 0, 0, 0, 0, 255, 255);
        readDue("of 65,535 bytes", all(head(0, 0, 0, 1, 0, 0), ROOT, longest, FOUR), 1, DATA);
        by("1: .. the data by its length: before what the data is");
        readDue("a 41 with a name", all(head(0, 0, 0, 1, 0, 0), name("a"), bytes(0, 41, 0, 1, 0, 0, 0, 0, 0, 1)), 1, 25);
        readDue("a bad length byte", Arrays.copyOf(rooted(2, bytes(64, 64)), DATA + 1), 1, DATA);
        readDue("a type 1 of five bytes", Arrays.copyOf(rooted(1, filled(5, 1)), DATA + 4), 1, DATA);
    }

    private static void lengthBytes() {
        by("2: a length byte of 64 .. 191, told at it");
        for (int lead = 1; lead < 64; lead++) {
            readGood("a label of " + lead, asking(bytes(lead), filled(lead, 'a'), ROOT, FIXED));
        }
        for (int lead = 64; lead < 192; lead++) {
            readDue("length byte " + lead, asking(bytes(lead), filled(200, 'a'), ROOT, FIXED), 2, 12);
            readDue("length byte " + lead + " as the last", asking(label("a"), bytes(lead)), 2, 14);
        }
        for (int lead = 192; lead < 256; lead++) {
            readDue("a pointer's " + lead, asking(bytes(lead, 12), FIXED), 3, 12);
        }
    }

    private static void lengthBytesElsewhere() {
        by("2: a length byte of 64 .. 191, told at it");
        for (int lead : new int[] {64, 127, 128, 191}) {
            readDue("of a record", all(head(0, 0, 0, 0, 0, 1), label("a"), bytes(lead)), 2, 14);
            readDue("behind a pointer", all(head(0, lead, 1, 0, 0, 0), pointer(3), FIXED), 2, 3);
            for (int type : ONE_NAME) {
                byte[] row = rooted(type, around(type, bytes(1, 97, lead, 0)));
                readDue("in data of " + type, row, 2, DATA + bytesBefore(type) + 2);
            }
            readDue("in the first name of 6", rooted(6, all(bytes(lead, 0), filled(20, 0))), 2, DATA);
            readDue("in the second name of 6", rooted(6, all(bytes(0, lead, 0), filled(20, 0))), 2, DATA + 1);
        }
    }

    /** The question before has the class 256, so that the last byte before the name that points is the root. */
    private static void pointersBeforeTheirName() {
        by("3: A POINTER must lead to a place before its own name began");
        byte[] front = all(head(0, 0, 2, 0, 0, 0), asked(name("a"), 1, 256));
        WireMessages x = readGood("to the byte before its name", all(front, pointer(18), FIXED));
        dueBytes("the name", nameAndData(x, 0, 1), ROOT);
        x = readGood("to the byte before its name, behind a label", all(front, label("b"), pointer(18), FIXED));
        dueBytes("the name", nameAndData(x, 0, 1), name("b"));
        dueBytes("to a name", nameAndData(readGood("to a name", all(front, pointer(12), FIXED)), 0, 1), name("a"));
        readDue("to its name", all(front, pointer(19), FIXED), 3, 19);
        readDue("to its name, behind a label", all(front, label("b"), pointer(19), FIXED), 3, 21);
        readDue("to its own label", all(front, label("b"), pointer(20), FIXED), 3, 21);
        readDue("to itself", all(front, label("b"), pointer(21), FIXED), 3, 21);
        readDue("to its second byte", all(front, pointer(20), FIXED), 3, 19);
        readDue("to the message's last byte", all(front, pointer(24), FIXED), 3, 19);
        readDue("behind the message", all(front, pointer(25), FIXED), 3, 19);
        readDue("to the highest place", all(front, pointer(16_383), FIXED), 3, 19);
        byte[] header = all(head(0x0141, 0, 2, 0, 0, 0), asked(ROOT, 1, 1), pointer(0), FIXED);
        dueBytes("to the message's first byte", nameAndData(readGood("to the header", header), 0, 1), name("A"));
        readGood("of the first name", all(head(0, 0, 1, 0, 0, 0), pointer(11), FIXED));
        readDue("of the first name, to it", all(head(0, 0, 1, 0, 0, 0), pointer(12), FIXED), 3, 12);
    }

    private static void pointersInData() {
        by("3: A POINTER must lead to a place before its own name began");
        for (int type : new int[] {2, 5, 12, 15}) {
            int start = DATA + bytesBefore(type);
            byte[] before = filled(bytesBefore(type), 0);
            readDue("to its name in data of " + type, rooted(type, all(before, pointer(start))), 3, start);
            byte[] behindLabel = rooted(type, all(before, label("b"), pointer(start)));
            readDue("behind a label in data of " + type, behindLabel, 3, start + 2);
            // That byte is a 0; or it is the length of the data, as that of a label, and the next record's name is the 0.
            byte[] row = all(head(0, 0, 0, 1, 1, 0), entry(ROOT, type, 1, 1, all(before, pointer(start - 1))),
                    entry(ROOT, 99, 1, 1, bytes()));
            WireMessages x = readGood("to the byte before it in data of " + type, row);
            dueBytes("its data", nameAndData(x, 1, 0), type == 15 ? bytes(0, 0, 0, 0) : bytes(0, 2, 192, start - 1, 0));
        }
        byte[] end = filled(20, 0);
        readGood("the second name of 6 to the first", rooted(6, all(name("a"), pointer(DATA), end)));
        readGood("the second name of 6 to the byte before it", rooted(6, all(name("a"), pointer(DATA + 2), end)));
        readDue("the second name of 6 to itself", rooted(6, all(name("a"), pointer(DATA + 3), end)), 3, DATA + 3);
        readDue("the first name of 6 to the second", rooted(6, all(pointer(DATA + 2), name("a"), end)), 3, DATA);
    }

    /** Data of any sort holds the names that are pointed at. */
    private static byte[] through(byte[] blob, int place) {
        return all(head(0, 0, 0, 2, 0, 0), entry(ROOT, 99, 1, 1, blob), entry(pointer(place), 99, 1, 1, bytes()));
    }

    private static void pointersBeforeOneAnother() {
        by("3: .. each further one of the same name to one before the place that the one before it led to");
        byte[] row = through(all(ROOT, pointer(DATA)), DATA + 1);
        due("to the byte before: followed", readGood("to the byte before", row).count(3), 2);
        readDue("to the same place", through(all(ROOT, pointer(DATA + 1)), DATA + 1), 3, DATA + 1);
        readDue("to the byte behind", through(all(ROOT, pointer(DATA + 2)), DATA + 1), 3, DATA + 1);
        row = through(all(ROOT, label("x"), pointer(DATA)), DATA + 1);
        dueBytes("behind a label", nameAndData(readGood("behind a label", row), 1, 1), name("x"));
        row = through(all(ROOT, label("x"), pointer(DATA + 1)), DATA + 1);
        readDue("behind a label, to the same place", row, 3, DATA + 3);
        row = through(all(ROOT, label("x"), pointer(DATA + 2)), DATA + 1);
        readDue("behind a label, before the POINTER but not before that place", row, 3, DATA + 3);
        row = through(all(ROOT, pointer(DATA), pointer(DATA + 1), pointer(DATA + 3)), DATA + 5);
        due("four: followed", readGood("four", row).count(3), 4);
        row = through(all(ROOT, pointer(DATA + 1), pointer(DATA + 1), pointer(DATA + 3)), DATA + 5);
        readDue("the fourth to the place of the third", row, 3, DATA + 1);
        row = through(all(ROOT, pointer(DATA + 3), pointer(DATA + 1)), DATA + 3);
        readDue("in a ring", row, 3, DATA + 1);
    }

    /** As many as an object can be fed with its calls. */
    private static void pointersInALongRow() {
        by("3: .. each further one of the same name to one before the place that the one before it led to");
        int most = 4_880;
        byte[] blob = new byte[1 + 2 * most];
        for (int k = 0; k < most; k++) {
            System.arraycopy(pointer(k == 0 ? DATA : DATA + 2 * k - 1), 0, blob, 1 + 2 * k, 2);
        }
        WireMessages x = readGood("a long row", through(blob, DATA + 2 * most - 1));
        due("a long row: followed", x.count(3), most + 1);
        dueBytes("a long row: the name", nameAndData(x, 1, 1), ROOT);
        System.arraycopy(pointer(DATA + 1), 0, blob, 1, 2);
        readDue("the last one to itself", through(blob, DATA + 2 * most - 1), 3, DATA + 1);
    }

    private static void pointersInOnePlaceAlone() {
        by("3: .. of the same name: the next name is not bound by it");
        byte[] row = all(head(0, 0, 3, 0, 0, 0), asked(name("a.b"), 1, 1), asked(pointer(12), 1, 1),
                asked(pointer(14), 1, 1));
        dueBytes("to a higher place", nameAndData(readGood("to a higher place", row), 0, 2), name("b"));
        row = rooted(6, all(name("a.b"), pointer(DATA), filled(20, 0)));
        dueBytes("within data", nameAndData(readGood("within data", row), 1, 0),
                all(ROOT, name("a.b"), name("a.b"), filled(20, 0)));
    }

    /** The places of a pointer have 14 bits: the highest one leads to a name that was written there. */
    private static void pointersToHighPlaces() {
        by("POINTER: the highest two bits of the first set, the others a place in the MESSAGE");
        for (int place : new int[] {255, 256, 257}) {
            byte[] row = all(head(0, 0, 0, 2, 0, 0), entry(ROOT, 99, 1, 1, all(filled(place - DATA, 9), name("p"))),
                    entry(pointer(place), 99, 1, 1, bytes()));
            dueBytes("to " + place, nameAndData(readGood("to " + place, row), 1, 1), name("p"));
        }
        for (int place = 16_380; place < 16_384; place++) {
            WireMessages x = new WireMessages();
            lay(x, wide(58, place - wideLength(58, 0)));
            due("wide", x.read(), 0);
            due("written again", x.write(65_535), place);
            add(x, 1, name("p"), 99, bytes());
            add(x, 1, name("p"), 99, bytes());
            x.write(65_535);
            due("the first byte of a POINTER to " + place, x.written(place + 13), place >> 8 | 192);
            due("the second byte of a POINTER to " + place, x.written(place + 14), place & 255);
            x.back(-1, 0);
            due("to " + place, x.read(), 0);
            due("to " + place + ": followed", x.count(3), 1);
            dueBytes("to " + place + ": the name", nameAndData(x, 1, 61), name("p"));
        }
    }

    private static void longNames() {
        by("4: a name above 255 bytes, told where that name began");
        readGood("254 bytes", asking(nameOf(254, 'n'), FIXED));
        readGood("255 bytes", asking(nameOf(255, 'n'), FIXED));
        readDue("256 bytes", asking(nameOf(256, 'n'), FIXED), 4, 12);
        readDue("257 bytes", asking(nameOf(257, 'n'), FIXED), 4, 12);
        readGood("127 labels", asking(labels("a.".repeat(127)), ROOT, FIXED));
        readDue("128 labels", asking(labels("a.".repeat(128)), ROOT, FIXED), 4, 12);
        byte[] front = all(head(0, 0, 0, 0, 2, 0), entry(ROOT, 99, 1, 1, bytes()));
        readGood("an owner's 255 bytes", all(front, entry(nameOf(255, 'n'), 99, 1, 1, bytes())));
        readDue("an owner's 256 bytes", all(front, entry(nameOf(256, 'n'), 99, 1, 1, bytes())), 4, DATA);
        for (int type : ONE_NAME) {
            readGood("255 bytes in data of " + type, rooted(type, around(type, nameOf(255, 'n'))));
            int start = DATA + bytesBefore(type);
            readDue("256 bytes in data of " + type, rooted(type, around(type, nameOf(256, 'n'))), 4, start);
        }
        byte[] end = filled(20, 0);
        readGood("twice 255 bytes", rooted(6, all(nameOf(255, 'n'), nameOf(255, 'm'), end)));
        readDue("256 bytes, first", rooted(6, all(nameOf(256, 'n'), nameOf(255, 'm'), end)), 4, DATA);
        readDue("256 bytes, second", rooted(6, all(nameOf(255, 'n'), nameOf(256, 'm'), end)), 4, DATA + 255);
    }

    private static void longNamesByPointer() {
        by("4: a name above 255 bytes, told where that name began");
        for (int size = 251; size <= 255; size++) {
            byte[] front = all(head(0, 0, 2, 0, 0, 0), asked(nameOf(size, 'n'), 1, 1));
            int start = 12 + size + 4;
            readGood(size + " by a pointer", all(front, pointer(12), FIXED));
            boolean good = size + 2 <= 255;
            readDue(size + " and two bytes", all(front, label("a"), pointer(12), FIXED), good ? 0 : 4, good ? -1 : start);
            good = size + 3 <= 255;
            byte[] longer = all(front, label("ab"), pointer(12), FIXED);
            readDue(size + " and three bytes", longer, good ? 0 : 4, good ? -1 : start);
        }
        byte[] full = asking(nameOf(255, 'n'), FIXED);
        full[12 + 254] = (byte) 192;
        readGood("254 bytes and a pointer to the root", all(Arrays.copyOf(full, 12 + 255), bytes(11), FIXED));
    }

    private static void longNamesShown() {
        by("4: A name above 255 bytes is told when a label's length byte shows it");
        byte[] three = all(filled(64, 63), filled(64, 63), filled(64, 63));
        readDue("the label is missing", asking(three, bytes(62)), 4, 12);
        readDue("one byte less: the label is missing", asking(three, bytes(61)), 1, 12 + 193);
        readDue("half of the label is missing", asking(three, bytes(63), filled(31, 1)), 4, 12);
        readDue("what comes behind is not looked at", asking(three, bytes(62), filled(62, 1), bytes(64)), 4, 12);
        readDue("a bad length byte is told as such", asking(three, bytes(64)), 2, 12 + 192);
        readDue("before the label leaves the data", rooted(2, all(three, bytes(62)), filled(99, 0)), 4, DATA);
        readDue("not before it", rooted(2, all(three, bytes(61)), filled(99, 0)), 5, DATA);
        readDue("behind the data", rooted(2, three, bytes(62), filled(99, 0)), 4, DATA);
        readDue("behind the data, the last byte", rooted(2, three, bytes(62)), 4, DATA);
        readDue("one byte less behind the data", rooted(2, three, bytes(61), filled(99, 0)), 5, DATA);
        readDue("one byte less behind the data, the last byte", rooted(2, three, bytes(61)), 1, DATA + 193);
        byte[] most = labels("a.".repeat(127));
        readDue("127 labels and a length byte", asking(most, bytes(1)), 4, 12);
        readDue("127 labels and no length byte", asking(most), 1, 12 + 254);
        readDue("127 labels and half a pointer", asking(most, bytes(192)), 1, 12 + 254);
    }

    private static void sizeDue(int type, byte[] data, boolean good) {
        String what = "type " + type + " with " + data.length + " bytes";
        readDue(what, rooted(type, data), good ? 0 : 5, good ? -1 : DATA);
        byte[] longer = rooted(type, data, filled(40, 0));
        readDue(what + ", bytes behind", longer, good ? 6 : 5, good ? DATA + data.length : DATA);
    }

    private static void fixedData() {
        by("DATA by type: 1: 4 bytes. 28: 16. 5: bytes too few or left, where the data began");
        for (int size = 0; size <= 34; size++) {
            sizeDue(1, filled(size, 0), size == 4);
            sizeDue(28, filled(size, 0), size == 16);
        }
        byte[] third = all(head(0, 0, 1, 1, 1, 1), asked(name("q"), 1, 1), entry(name("n"), 2, 1, 1, name("m")),
                entry(ROOT, 1, 1, 1, FOUR), entry(name("r"), 1, 1, 1, bytes(1)));
        readDue("in section 3", third, 5, 12 + 7 + 16 + 15 + 13);
        sizeDue(1, filled(260, 0), false);
        sizeDue(28, filled(272, 0), false);
    }

    private static void nameData() {
        by("DATA by type: 2, 5, 12: a name. 15: 2 bytes, a name. 33: 6 bytes, a name. 5: bytes too few or left");
        for (int type : ONE_NAME) {
            sizeDue(type, around(type, ROOT), true);
            sizeDue(type, around(type, name("a")), true);
            sizeDue(type, around(type, all(ROOT, bytes(0))), false);
            sizeDue(type, around(type, all(name("a"), bytes(7))), false);
            for (int size = 0; size < bytesBefore(type); size++) {
                sizeDue(type, filled(size, 0), false);
            }
        }
        byte[] row = all(head(0, 0, 1, 1, 0, 0), asked(name("a"), 1, 1),
                entry(ROOT, 2, 1, 1, all(pointer(12), bytes(0))));
        readDue("a byte left behind a pointer", row, 5, 30);
    }

    private static void twoNames() {
        by("DATA by type: 6: two names, 20 bytes. 5: bytes too few or left");
        for (int size = 0; size <= 41; size++) {
            sizeDue(6, all(name("a"), ROOT, filled(size, 0)), size == 20);
            sizeDue(6, all(ROOT, name("b"), filled(size, 0)), size == 20);
        }
        byte[] front = all(head(0, 0, 1, 1, 0, 0), asked(name("a"), 1, 1));
        for (int size = 19; size <= 21; size++) {
            byte[] data = all(pointer(12), pointer(12), filled(size, 0));
            byte[] row = all(front, entry(ROOT, 6, 1, 1, data));
            readDue("with pointers and " + size, row, size == 20 ? 0 : 5, size == 20 ? -1 : 30);
        }
    }

    private static void strings() {
        by("DATA by type: 16: one or more strings (a length 0 .. 255 and so many bytes)");
        sizeDue(16, bytes(), false);
        sizeDue(16, bytes(0), true);
        sizeDue(16, bytes(0, 0, 0), true);
        for (int size : new int[] {1, 2, 63, 64, 127, 128, 191, 192, 254, 255}) {
            sizeDue(16, all(bytes(size), filled(size - 1, 0)), false);
            sizeDue(16, all(bytes(size), filled(size, 9)), true);
            sizeDue(16, all(bytes(size), filled(size, 9), bytes(size), filled(size, 9)), true);
            sizeDue(16, all(bytes(size), filled(size, 9), bytes(size), filled(size - 1, 9)), false);
            sizeDue(16, all(bytes(size), filled(size, 9), bytes(1)), false);
        }
    }

    private static void rootOnly() {
        by("DATA by type: 41: any (its name must be the root): 5, where the data began");
        for (int size : new int[] {0, 1, 255, 256}) {
            sizeDue(41, filled(size, 200), true);
            byte[] row = all(head(0, 0, 0, 0, 0, 1), entry(name("a"), 41, 1, 1, filled(size, 200)));
            readDue("with a name", row, 5, 12 + 3 + 10);
        }
        readGood("asked for", asking(name("a"), bytes(0, 41, 0, 1)));
        readGood("the root by a pointer", all(head(0, 0, 0, 0, 0, 1), entry(pointer(0), 41, 1, 1, FOUR)));
        byte[] byPointer = all(head(0, 0, 1, 0, 0, 1), asked(name("a"), 1, 1), entry(pointer(12), 41, 1, 1, FOUR));
        readDue("a name by a pointer", byPointer, 5, 19 + 12);
        readGood("the 40 beside it", all(head(0, 0, 0, 0, 0, 1), entry(name("a"), 40, 1, 1, FOUR)));
        readGood("the 42 beside it", all(head(0, 0, 0, 0, 0, 1), entry(name("a"), 42, 1, 1, FOUR)));
    }

    private static void otherData() {
        by("DATA by type: Others: any");
        for (int type : new int[] {0, 3, 4, 7, 11, 13, 14, 17, 27, 29, 32, 34, 40, 42, 257, 258, 272, 65_535}) {
            sizeDue(type, bytes(), true);
            sizeDue(type, bytes(192, 12), true);
            sizeDue(type, filled(300, 64), true);
        }
    }

    private static void pointersWhereNoneMayBe() {
        by("5: .. or has a POINTER where none may be: 33 alone of those with names");
        byte[] front = all(head(0, 0, 1, 1, 0, 0), asked(name("a.b"), 1, 1));
        for (int type : ONE_NAME) {
            boolean good = type != 33;
            byte[] alone = entry(ROOT, type, 1, 1, around(type, pointer(12)));
            byte[] behindLabel = entry(ROOT, type, 1, 1, around(type, all(label("c"), pointer(14))));
            readDue("a pointer in " + type, all(front, alone), good ? 0 : 5, good ? -1 : 32);
            readDue("behind a label in " + type, all(front, behindLabel), good ? 0 : 5, good ? -1 : 32);
        }
        WireMessages x = readGood("in 15", all(front, entry(pointer(12), 15, 1, 1, around(15, pointer(14)))));
        dueBytes("kept and shown they have none", nameAndData(x, 1, 0), all(name("a.b"), bytes(1, 1), name("b")));
        x = readGood("in 6", all(front, entry(ROOT, 6, 1, 1, all(pointer(12), pointer(14), filled(20, 8)))));
        dueBytes("kept and shown they have none", nameAndData(x, 1, 0), all(ROOT, name("a.b"), name("b"), filled(20, 8)));
        due("the bytes of its data", x.told(1, 0, 3), 5 + 3 + 20);
        readGood("the owner of a 33", all(front, entry(pointer(12), 33, 1, 1, around(33, ROOT))));
    }

    private static void faultsOfNamesBeforeData() {
        by("In data, faults 1 to 4 of names are told as such, before 5");
        for (int type : ONE_NAME) {
            int start = DATA + bytesBefore(type);
            readDue("1: the message ends in a label", rooted(type, around(type, bytes(5, 97))), 1, start + 1);
            readDue("1: the message ends behind a label", rooted(type, around(type, label("a"))), 1, start + 2);
            readDue("2: with bytes left", rooted(type, around(type, bytes(64, 0, 0, 0))), 2, start);
            readDue("3: with bytes left", rooted(type, around(type, all(pointer(start), bytes(0, 0)))), 3, start);
            readDue("4: with bytes left", rooted(type, around(type, all(nameOf(256, 'x'), bytes(0)))), 4, start);
            readDue("2 behind a pointer", all(head(64, 0, 0, 1, 0, 0),
                    entry(ROOT, type, 1, 1, around(type, all(pointer(1), bytes(0))))), 2, 1);
        }
        faultsBehindPointers();
        by("In data, faults 1 to 4 of names are told as such, before 5: also where no POINTER may be");
        readDue("33: a pointer forward", rooted(33, around(33, pointer(500))), 3, DATA + 6);
        readDue("33: a pointer to its name", rooted(33, around(33, pointer(DATA + 6))), 3, DATA + 6);
        readDue("33: a pointer to the byte before", rooted(33, all(filled(6, 0), pointer(DATA + 5))), 5, DATA);
        readDue("6: of the second name", rooted(6, all(name("a"), bytes(64, 0))), 2, DATA + 3);
        readDue("6: of the first name", rooted(6, bytes(64, 64)), 2, DATA);
        by("5: bytes too few before the name");
        readDue("15", rooted(15, bytes(64)), 5, DATA);
        readDue("33", rooted(33, filled(5, 64)), 5, DATA);
    }

    /** The data has a byte too much, and in 33 the POINTER itself is one where none may be: both would be 5. */
    private static void faultsBehindPointers() {
        by("In data, faults 1 to 4 of names are told as such, before 5: also behind a POINTER");
        byte[] front = asked(nameOf(255, 'n'), 1, 1);
        for (int type : ONE_NAME) {
            byte[] data = around(type, all(pointer(0), bytes(0)));
            byte[] one = entry(ROOT, type, 1, 1, data);
            readDue("1: a label", all(head(0x3F00, 0, 0, 1, 0, 0), one), 1, 1);
            int end = 12 + one.length;
            readDue("1: a length byte", all(head((end - 1) << 8, 0, 0, 1, 0, 0), one), 1, end);
            readDue("the length byte is there", all(head((end - 2) << 8, 0, 0, 1, 0, 0), one), 5, DATA);
            readDue("2", all(head(0x8000, 0, 0, 1, 0, 0), one), 2, 0);
            readDue("3", all(head(0xC000, 0, 0, 1, 0, 0), one), 3, 0);
            byte[] longer = entry(ROOT, type, 1, 1, around(type, all(label("a"), pointer(12), bytes(0))));
            int start = 12 + front.length + 11 + bytesBefore(type);
            readDue("4", all(head(0, 0, 1, 1, 0, 0), front, longer), 4, start);
            byte[] whole = entry(ROOT, type, 1, 1, around(type, all(pointer(12), bytes(0))));
            readDue("none of them", all(head(0, 0, 1, 1, 0, 0), front, whole), 5, 12 + front.length + 11);
        }
    }

    private static void namesThatLeaveData() {
        by("a label or POINTER that is not wholly inside of the data, though inside of the MESSAGE, is 5");
        for (int type : ONE_NAME) {
            byte[] one = around(type, label("a"));
            byte[] half = around(type, bytes(2, 97));
            int end = DATA + one.length;
            readDue("half a label behind it", rooted(type, half, bytes(97, 0)), 5, DATA);
            readDue("half a label behind it, the last byte", rooted(type, half, bytes(97)), 5, DATA);
            readDue("half a label behind the MESSAGE", rooted(type, half), 1, end - 1);
            readDue("a label behind it", rooted(type, one, name("b")), 5, DATA);
            readDue("a label behind it, half of it behind the MESSAGE", rooted(type, one, bytes(2, 98)), 1, end + 1);
            readDue("the 0 behind it", rooted(type, one, ROOT), 5, DATA);
            readDue("the 0 behind the MESSAGE", rooted(type, one), 1, end);
            readDue("a pointer behind it", rooted(type, one, pointer(0)), 5, DATA);
            readDue("a pointer behind it that leads forward", rooted(type, one, pointer(9999)), 5, DATA);
            readDue("half a pointer behind it", rooted(type, all(one, bytes(192)), bytes(0)), 5, DATA);
            readDue("half a pointer behind it that leads forward", rooted(type, all(one, bytes(255)), bytes(0)), 5, DATA);
            readDue("half a pointer behind the MESSAGE", rooted(type, all(one, bytes(192))), 1, end);
            readDue("a bad length byte behind it", rooted(type, one, bytes(64)), 2, end);
        }
        byte[] second = all(name("a"), bytes(2, 98));
        readDue("of the second name", rooted(6, second, filled(30, 0)), 5, DATA);
        readDue("of the second name, behind the MESSAGE", rooted(6, second), 1, DATA + 4);
        readDue("the second name begins behind it", rooted(6, name("a"), filled(30, 0)), 5, DATA);
    }

    private static void namesBehindPointers() {
        by(".. as long as no POINTER was followed: behind one the name may stand anywhere in the MESSAGE");
        // The two bytes before the name are a label that covers the name itself and goes on behind the data.
        byte[] beyond = all(head(0, 0, 0, 1, 0, 1), entry(ROOT, 15, 1, 1, all(bytes(3, 1), pointer(DATA))),
                entry(ROOT, 99, 1, 1, bytes()));
        WireMessages x = readGood("over the end of the data", beyond);
        dueBytes("its name", nameAndData(x, 1, 0), all(bytes(0, 3, 1, 3, 1, 192, DATA, 0)));
        byte[] further = all(head(0, 0, 0, 1, 0, 1), entry(ROOT, 15, 1, 1, all(bytes(4, 1), pointer(DATA))),
                entry(ROOT, 99, 1, 1, bytes()));
        x = readGood("a label that leaves the data", further);
        dueBytes("its name", nameAndData(x, 1, 0), all(bytes(0, 4, 1, 4, 1, 192, DATA, 0, 0)));
        byte[] missing = rooted(15, all(bytes(4, 1), pointer(DATA)));
        readDue("a label that leaves the MESSAGE", missing, 1, DATA + 1);
        readDue("a length byte behind the MESSAGE", rooted(15, all(bytes(3, 1), pointer(DATA))), 1, DATA + 4);
        readDue("bytes left behind the POINTER", rooted(15, all(bytes(0, 0), pointer(DATA), bytes(0))), 5, DATA);
        byte[] second = rooted(6, all(pointer(0), bytes(2, 98)), filled(30, 0));
        readDue("one followed by the first name of two does not count for the second", second, 5, DATA);
    }

    private static void bytesBehind() {
        by("6: bytes behind the last RECORD, the first byte behind");
        for (int behind = 0; behind <= 12; behind++) {
            int fault = behind == 0 ? 0 : 6;
            readDue("the header and " + behind, all(new byte[12], filled(behind, 0)), fault, behind == 0 ? -1 : 12);
            byte[] question = asking(name("a"), FIXED, filled(behind, 0));
            readDue("a question and " + behind, question, fault, behind == 0 ? -1 : 19);
            readDue("a record and " + behind, rooted(1, FOUR, filled(behind, 0)), fault, behind == 0 ? -1 : 27);
        }
    }

    private static void manyQuestions() {
        by("7: more than 100 questions, told where that question began");
        due("99", readGood("99", all(head(0, 0, 99, 0, 0, 0), new byte[99 * 5])).header(2), 99);
        due("100", readGood("100", all(head(0, 0, 100, 0, 0, 0), new byte[100 * 5])).header(2), 100);
        readDue("101", all(head(0, 0, 101, 0, 0, 0), new byte[101 * 5]), 7, 12 + 500);
        readDue("65,535", all(head(0, 0, 65_535, 0, 0, 0), new byte[101 * 5]), 7, 12 + 500);
        readDue("100 of 101", all(head(0, 0, 101, 0, 0, 0), new byte[100 * 5]), 1, 12 + 500);
    }

    /** More calls than an object is used for: the document's limit can't be reached with less. */
    private static void manyRecords() {
        by("7: more than 1,000 RECORDS, told where that RECORD began");
        due("999", readGood("999", all(head(0, 0, 0, 999, 0, 0), new byte[999 * 11])).header(3), 999);
        int[][] counts = {{1000, 0, 0}, {0, 1000, 0}, {0, 0, 1000}, {333, 333, 334}};
        for (int[] n : counts) {
            WireMessages x = readGood("1,000", all(head(0, 0, 0, n[0], n[1], n[2]), new byte[11_000]));
            due("all of them", x.header(3) + x.header(4) + x.header(5), 1000);
            readDue("1,001", all(head(0, 0, 0, n[0], n[1], n[2] + 1), new byte[11_011]), 7, 12 + 11_000);
        }
        readDue("with a question", all(head(0, 0, 1, 1001, 0, 0), new byte[5 + 11_011]), 7, 12 + 5 + 11_000);
        readGood("100 questions beside them", all(head(0, 0, 100, 1000, 0, 0), new byte[500 + 11_000]));
    }

    /** One question and 255 records with names of 255 bytes, then one under the root. */
    private static byte[] bytesInAll(int bytes) {
        byte[] row = all(head(0, 0, 1, 255, 0, 1), asked(nameOf(255, 'm'), 1, 1));
        for (int k = 0; k < 255; k++) {
            row = all(row, entry(pointer(12), 99, 1, 1, bytes()));
        }
        return all(row, entry(ROOT, 99, 1, 1, filled(bytes - 256 * 255 - 1, 1)));
    }

    private static void manyBytes() {
        by("7: more than 65,536 bytes of names and data (without POINTERS) in all, told where that RECORD began");
        int last = 12 + 259 + 255 * 12;
        readGood("65,535", bytesInAll(65_535));
        WireMessages x = readGood("65,536", bytesInAll(65_536));
        due("the last byte of all", x.byteOf(3, 0, 65_536 - 256 * 255 - 1), 1);
        readDue("65,537", bytesInAll(65_537), 7, last);
        // The data has two bytes in the message, but 255 when it has no pointer.
        byte[] front = Arrays.copyOf(bytesInAll(65_536), last);
        readDue("by data with a pointer", all(front, entry(ROOT, 2, 1, 1, pointer(12))), 0, -1);
        byte[] more = entry(ROOT, 15, 1, 1, all(bytes(1, 1), pointer(12)));
        readDue("by more than that", all(front, more), 7, last);
        readDue("by a name with a pointer", all(front, entry(pointer(12), 2, 1, 1, ROOT)), 0, -1);
        readDue("by a name with a pointer and data", all(front, entry(pointer(12), 2, 1, 1, name("a"))), 7, last);
    }

    private static void whenAllWasRead() {
        by("7: .. told at the question or RECORD with which it is so, when all of it was read");
        byte[] questions = all(head(0, 0, 101, 0, 0, 0), new byte[500]);
        readDue("the 101st has fault 1", all(questions, new byte[4]), 1, 513);
        readDue("the 101st has fault 2", all(questions, bytes(64)), 2, 512);
        readDue("the 101st has fault 3", all(questions, pointer(512)), 3, 512);
        readDue("the 101st has fault 4", all(questions, nameOf(256, 'x')), 4, 512);
        readDue("behind the 101st there is one", all(questions, new byte[5], bytes(64)), 7, 512);
        int last = 12 + 259 + 255 * 12;
        byte[] full = Arrays.copyOf(bytesInAll(65_536), last);
        byte[] much = all(name("a"), bytes(0, 1, 0, 1, 0, 0, 0, 0, 1, 10));
        readDue("the RECORD too much has fault 1", all(full, much, filled(265, 1)), 1, last + 13);
        readDue("the RECORD too much has fault 5", all(full, much, filled(266, 1)), 5, last + 13);
        readDue("behind it there is one byte", all(bytesInAll(65_537), bytes(1)), 7, last);
    }

    private static void theFirstFaultEndsIt() {
        by("READING goes from the front; the first fault ends it");
        readDue("2, then 5", all(head(0, 0, 1, 1, 0, 0), bytes(64), FIXED, entry(ROOT, 1, 1, 1, bytes())), 2, 12);
        byte[] five = entry(ROOT, 1, 1, 1, bytes());
        readDue("5, then 2", all(head(0, 0, 0, 2, 0, 0), five, bytes(64)), 5, DATA);
        readDue("5, then 1", all(head(0, 0, 0, 2, 0, 0), five), 5, DATA);
        readDue("5, then 6", all(head(0, 0, 0, 1, 0, 0), five, bytes(1)), 5, DATA);
        readDue("1 in the second of two", all(head(0, 0, 0, 1, 1, 0), entry(ROOT, 1, 1, 1, FOUR)), 1, 27);
    }

    private static void nothingIsGathered() {
        by("4: With a fault nothing is gathered (id and flags are 0; the TAPE is empty all the same)");
        byte[][] rows = {filled(11, 1), all(head(9, 9, 2, 0, 0, 0), asked(name("a"), 1, 1), bytes(64)),
            all(head(9, 9, 2, 0, 0, 0), asked(name("a"), 1, 1), pointer(19)),
            all(head(9, 9, 2, 0, 0, 0), asked(name("a"), 1, 1), nameOf(256, 'x')),
            all(head(9, 9, 0, 2, 0, 0), entry(ROOT, 1, 1, 1, FOUR), entry(ROOT, 1, 1, 1, bytes())),
            all(head(9, 9, 1, 1, 0, 0), asked(name("a"), 1, 1), entry(ROOT, 1, 1, 1, FOUR), bytes(0)),
            all(head(9, 9, 101, 0, 0, 0), new byte[505])};
        for (int fault = 1; fault <= 7; fault++) {
            WireMessages x = new WireMessages();
            x.begin(5, 6);
            ask(x, name("old"), 1, 1);
            add(x, 2, name("old"), 1, FOUR);
            lay(x, rows[fault - 1]);
            due("fault", x.read(), fault);
            due("the TAPE", x.count(0), 0);
            for (int what = 0; what <= 5; what++) {
                due("header(" + what + ") with fault " + fault, x.header(what), 0);
            }
            dueThrow("no question", java.util.NoSuchElementException.class, () -> x.told(0, 0, 0));
            dueThrow("no record", java.util.NoSuchElementException.class, () -> x.told(2, 0, 0));
            due("what is written then", x.write(512), 12);
            due("all the room is there again", ask(x, name("new"), 1, 1), 1);
        }
    }

    private static void faultAtStays() {
        by("5: The byte at which the last READING met its fault, -1 without one, and before the first");
        WireMessages x = new WireMessages();
        due("before the first", x.faultAt(), -1);
        lay(x, all(new byte[12], bytes(1)));
        x.read();
        due("with one", x.faultAt(), 12);
        x.begin(1, 1);
        ask(x, name("a"), 1, 1);
        add(x, 1, name("a"), 1, FOUR);
        x.write(512);
        lay(x, bytes(64));
        dueThrow("no name", IllegalArgumentException.class, () -> x.question(1, 1));
        dueThrow("no name", IllegalArgumentException.class, () -> x.record(1, 1, 1, 1));
        x.back(-1, 0);
        due("other calls leave it", x.faultAt(), 12);
        due("a reading without one", x.read(), 0);
        due("without one", x.faultAt(), -1);
        due("nothing to read", x.read(), 1);
        due("at the first byte", x.faultAt(), 0);
    }

    private static void pointersFollowed() {
        by("17: 3: POINTERS that the last READING without fault followed");
        WireMessages x = new WireMessages();
        due("before the first", x.count(3), 0);
        byte[] three = all(head(0, 0, 2, 1, 0, 0), asked(name("a"), 1, 1), asked(pointer(12), 1, 1),
                entry(pointer(19), 2, 1, 1, pointer(12)));
        lay(x, three);
        due("reading", x.read(), 0);
        due("four are followed", x.count(3), 4);
        lay(x, all(head(0, 0, 1, 0, 0, 0), pointer(0), FIXED, bytes(0)));
        due("reading with a fault", x.read(), 6);
        due("the last one without", x.count(3), 4);
        lay(x, all(head(0, 0, 1, 0, 0, 0), pointer(0), FIXED));
        due("reading with one", x.read(), 0);
        due("one is followed", x.count(3), 1);
        lay(x, three);
        due("reading again", x.read(), 0);
        due("four are followed again", x.count(3), 4);
        lay(x, all(label("a"), pointer(0)));
        dueThrow("no name", IllegalArgumentException.class, () -> x.question(1, 1));
        lay(x, all(name("a"), pointer(0)));
        dueThrow("no data", IllegalArgumentException.class, () -> x.record(1, 2, 1, 1));
        due("other calls leave it", x.count(3), 4);
        x.end(0);
        lay(x, new byte[12]);
        due("reading without pointers", x.read(), 0);
        due("none is followed", x.count(3), 0);
    }

    /** The TAPE is a MESSAGE of 65,516 bytes that was written, with one more record behind it, or a part of it. */
    private static void longestMessages() {
        by("THE TAPE: at most 65,536 bytes, READ as a MESSAGE");
        WireMessages x = new WireMessages();
        lay(x, wide(243, 65));
        due("wide", x.read(), 0);
        due("its length", x.write(65_535), wideLength(243, 65));
        due("is 65,516", x.count(1), 65_516);
        due("without pointers", x.count(2), 0);
        x.back(7, 245 ^ 246);
        due("full", x.feed(0, 0, 0x0900, 0, 0), 65_536);
        due("65,536 bytes", x.read(), 0);
        due("one record more", x.header(3), 246);
        due("its data", x.told(1, 245, 3), 9);
        x.back(-1, 0);
        x.feed(0, 0, 0, 0, 0);
        due("bytes behind", x.read(), 6);
        due("the first of them", x.faultAt(), 65_516);
        x.back(7, 245 ^ 246);
        x.feed(0, 0, 0x0900, 0, 0);
        x.end(65_535);
        due("one byte less", x.read(), 1);
        due("where the data began", x.faultAt(), 65_536 - 9);
        endsOfFullTapes(x);
    }

    /** With the MESSAGE of 65,516 bytes: the last twenty bytes of a full TAPE are a name that is not there whole. */
    private static void endsOfFullTapes(WireMessages x) {
        by("1: the MESSAGE ends too early, where the TAPE has no room behind it");
        int[][] names = {{18, 192, 65_535}, {18, 255, 65_535}, {18, 1, 65_536}, {19, 0, 65_536}, {20, 0, 65_517}};
        for (int[] one : names) {
            x.back(7, 245 ^ 246);
            due("full", x.feed(one[0] << 24, 0, 0, 0, one[1]), 65_536);
            due("a label of " + one[0] + " and the byte " + one[1], x.read(), 1);
            due("its place", x.faultAt(), one[2]);
        }
        by("5: data at the end of a full TAPE");
        int[][] strings = {{8, 0}, {9, 5}, {255, 5}};
        for (int[] one : strings) {
            x.back(7, 245 ^ 246);
            due("full", x.feed(16 << 8, 0, 0x0900 | one[0], 0, 0), 65_536);
            due("a string of " + one[0] + " in nine bytes", x.read(), one[1]);
            due("its place", x.faultAt(), one[1] == 0 ? -1 : 65_527);
        }
    }
}
