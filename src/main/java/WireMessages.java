import java.util.NoSuchElementException;

/** Messages of the domain name system, read from a tape of bytes, gathered part by part, and written. */
public final class WireMessages {
    private static final int MOST_BYTES = 65_536;
    private static final int MOST_QUESTIONS = 100;
    private static final int MOST_RECORDS = 1_000;
    private static final int MOST_NAME = 255;
    private static final int MOST_LABELS = 127;
    private static final int LONGEST_LABEL = 63;
    private static final int SECTIONS = 4;
    private static final int QUESTIONS = 0;
    private static final int ADDITIONALS = 3;
    private static final int HEADER = 12;
    private static final int QUESTION_FIXED = 4;
    private static final int RECORD_FIXED = 10;
    private static final int FED_AT_ONCE = 20;
    private static final int HIGHEST_LIMIT = 65_535;
    private static final int LOW_BITS = 0xFFFF;
    private static final int CUT_FLAG = 512;
    private static final int FIRST_POINTER_BYTE = 192;
    private static final int POINTABLE = 16_384;

    private static final int FAULT_SHORT = 1;
    private static final int FAULT_LENGTH = 2;
    private static final int FAULT_POINTER = 3;
    private static final int FAULT_NAME = 4;
    private static final int FAULT_DATA = 5;
    private static final int FAULT_BEHIND = 6;
    private static final int FAULT_MUCH = 7;

    private final Bytes tape;
    private final Gathered gathered;
    private final Reader reader;
    private final Writer writer;
    private final Names names;
    private int lastFaultPlace;
    private int lastFollowed;

    public WireMessages() {
        tape = new Bytes();
        gathered = new Gathered();
        reader = new Reader(tape, gathered);
        writer = new Writer(gathered);
        names = new Names(gathered.bytes);
        lastFaultPlace = -1;
        lastFollowed = 0;
    }

    public int feed(int a, int b, int c, int d, int e) throws IllegalStateException {
        if (tape.length + FED_AT_ONCE > MOST_BYTES) {
            throw new IllegalStateException();
        }
        tape.putFour(a);
        tape.putFour(b);
        tape.putFour(c);
        tape.putFour(d);
        tape.putFour(e);
        return tape.length;
    }

    public int end(int n) throws IllegalArgumentException {
        if (n < 0 || n > tape.length) {
            throw new IllegalArgumentException();
        }
        tape.length = n;
        return n;
    }

    public int read() {
        int fault = reader.takeMessage();
        lastFaultPlace = reader.faultPlace;
        if (fault == 0) {
            lastFollowed = reader.followed;
        }
        tape.length = 0;
        return fault;
    }

    public int faultAt() {
        return lastFaultPlace;
    }

    public void begin(int id, int flags) {
        gathered.startAnew(id & LOW_BITS, flags & LOW_BITS);
    }

    public int question(int type, int kind) throws IllegalArgumentException, IllegalStateException {
        int from = gathered.bytes.length;
        if (!reader.takeTapeAsName()) {
            throw new IllegalArgumentException();
        }
        if (!gathered.keep(QUESTIONS, from, reader.ownerLength, type & LOW_BITS, kind & LOW_BITS, 0)) {
            throw new IllegalStateException();
        }
        tape.length = 0;
        return gathered.sizes[QUESTIONS];
    }

    public int record(int section, int type, int kind, int time)
            throws NoSuchElementException, IllegalArgumentException, IllegalStateException {
        if (section <= QUESTIONS || section >= SECTIONS) {
            throw new NoSuchElementException();
        }
        int from = gathered.bytes.length;
        if (!reader.takeTapeAsNameAndData(type & LOW_BITS)) {
            throw new IllegalArgumentException();
        }
        if (!gathered.keep(section, from, reader.ownerLength, type & LOW_BITS, kind & LOW_BITS, time)) {
            throw new IllegalStateException();
        }
        tape.length = 0;
        return gathered.sizes[section];
    }

    public int write(int limit) throws IllegalArgumentException, UnsupportedOperationException {
        if (limit < HEADER || limit > HIGHEST_LIMIT) {
            throw new IllegalArgumentException();
        }
        if (HEADER + gathered.bytesNeverLeftOut() > limit) {
            throw new UnsupportedOperationException();
        }
        writer.compose(limit);
        return writer.message.length;
    }

    public int back(int at, int with) throws IndexOutOfBoundsException {
        Bytes message = writer.message;
        if (at < -1 || at >= message.length) {
            throw new IndexOutOfBoundsException();
        }
        tape.length = 0;
        tape.putFrom(message, 0, message.length);
        if (at >= 0) {
            tape.set(at, message.at(at) ^ with);
        }
        return tape.length;
    }

    public int written(int i) throws IndexOutOfBoundsException {
        if (i < 0 || i >= writer.message.length) {
            throw new IndexOutOfBoundsException();
        }
        return writer.message.at(i);
    }

    public int header(int what) throws IllegalArgumentException {
        switch (what) {
            case 0:
                return gathered.id;
            case 1:
                return gathered.flags;
            case 2:
            case 3:
            case 4:
            case 5:
                return gathered.sizes[what - 2];
            default:
                throw new IllegalArgumentException();
        }
    }

    public int told(int section, int k, int what) throws NoSuchElementException, IllegalArgumentException {
        int row = rowThatIs(section, k);
        if (what < 0 || what > 4 || (section == QUESTIONS && what > 2)) {
            throw new IllegalArgumentException();
        }
        switch (what) {
            case 0:
                return gathered.types[row];
            case 1:
                return gathered.kinds[row];
            case 2:
                return gathered.nameLengths[row];
            case 3:
                return gathered.dataLengths[row];
            default:
                return gathered.times[row];
        }
    }

    public int byteOf(int section, int k, int i) throws NoSuchElementException, IndexOutOfBoundsException {
        int row = rowThatIs(section, k);
        if (i < 0 || i >= gathered.nameLengths[row] + gathered.dataLengths[row]) {
            throw new IndexOutOfBoundsException();
        }
        return gathered.bytes.at(gathered.starts[row] + i);
    }

    public boolean same(int section, int k, int other, int j) throws NoSuchElementException {
        int row = rowThatIs(section, k);
        int otherRow = rowThatIs(other, j);
        return names.compare(gathered.starts[row], gathered.starts[otherRow]) == 0;
    }

    public int order(int section, int k, int other, int j) throws NoSuchElementException {
        int row = rowThatIs(section, k);
        int otherRow = rowThatIs(other, j);
        return names.compare(gathered.starts[row], gathered.starts[otherRow]);
    }

    public int count(int what) {
        switch (what) {
            case 0:
                return tape.length;
            case 1:
                return writer.message.length;
            case 2:
                return writer.pointers;
            case 3:
                return lastFollowed;
            default:
                return -1;
        }
    }

    private int rowThatIs(int section, int k) throws NoSuchElementException {
        int row = gathered.rowOf(section, k);
        if (row < 0) {
            throw new NoSuchElementException();
        }
        return row;
    }

    /**
     * A row of bytes. Its length goes on beyond its room, where bytes are lost: so a part that
     * turns out to be too long can first be put whole, then measured and taken back.
     */
    private static final class Bytes {
        private final byte[] room = new byte[MOST_BYTES];
        private int length;

        private int at(int i) {
            return i >= 0 && i < room.length ? room[i] & 255 : 0;
        }

        private int twoAt(int i) {
            return at(i) << 8 | at(i + 1);
        }

        private int fourAt(int i) {
            return twoAt(i) << 16 | twoAt(i + 2);
        }

        private void set(int i, int value) {
            if (i >= 0 && i < room.length) {
                room[i] = (byte) value;
            }
        }

        private void setTwo(int i, int value) {
            set(i, value >> 8);
            set(i + 1, value);
        }

        private void put(int value) {
            set(length, value);
            length++;
        }

        private void putTwo(int value) {
            put(value >> 8);
            put(value);
        }

        private void putFour(int value) {
            putTwo(value >> 16);
            putTwo(value);
        }

        private void putFrom(Bytes other, int from, int count) {
            int fitting = Math.min(Math.min(count, room.length - length), other.room.length - from);
            if (from >= 0 && fitting > 0) {
                System.arraycopy(other.room, from, room, length, fitting);
            }
            length += count;
        }
    }

    /** What data of each type is made of: leading bytes, names, trailing bytes; or a fixed size; or anything. */
    private static final class Kinds {
        private static final int STRINGS = 16;
        private static final int ROOT_ONLY = 41;

        private static int fixedSize(int type) {
            switch (type) {
                case 1:
                    return 4;
                case 28:
                    return 16;
                default:
                    return -1;
            }
        }

        private static int namesIn(int type) {
            switch (type) {
                case 2:
                case 5:
                case 12:
                case 15:
                case 33:
                    return 1;
                case 6:
                    return 2;
                default:
                    return 0;
            }
        }

        private static int bytesBeforeNames(int type) {
            switch (type) {
                case 15:
                    return 2;
                case 33:
                    return 6;
                default:
                    return 0;
            }
        }

        private static int bytesBehindNames(int type) {
            return type == 6 ? 20 : 0;
        }

        private static boolean sharesNames(int type) {
            return type != 33 && namesIn(type) > 0;
        }
    }

    /** The header, questions and records that were read or gathered; names stand in it without pointers. */
    private static final class Gathered {
        private final Bytes bytes = new Bytes();
        private final int[] starts = new int[MOST_QUESTIONS + MOST_RECORDS];
        private final int[] nameLengths = new int[MOST_QUESTIONS + MOST_RECORDS];
        private final int[] dataLengths = new int[MOST_QUESTIONS + MOST_RECORDS];
        private final int[] types = new int[MOST_QUESTIONS + MOST_RECORDS];
        private final int[] kinds = new int[MOST_QUESTIONS + MOST_RECORDS];
        private final int[] times = new int[MOST_QUESTIONS + MOST_RECORDS];
        private final int[][] rows = new int[SECTIONS][MOST_RECORDS];
        private final int[] sizes = new int[SECTIONS];
        private int id;
        private int flags;

        private void startAnew(int newId, int newFlags) {
            id = newId;
            flags = newFlags;
            bytes.length = 0;
            for (int section = 0; section < SECTIONS; section++) {
                sizes[section] = 0;
            }
        }

        private int records() {
            return sizes[1] + sizes[2] + sizes[3];
        }

        private boolean hasPlaceIn(int section) {
            return section == QUESTIONS ? sizes[QUESTIONS] < MOST_QUESTIONS : records() < MOST_RECORDS;
        }

        /** Keeps the bytes from there on, name and data, as a question or record; takes them back if it is too much. */
        private boolean keep(int section, int from, int nameLength, int type, int kind, int time) {
            if (bytes.length > MOST_BYTES || !hasPlaceIn(section)) {
                bytes.length = from;
                return false;
            }
            int row = sizes[QUESTIONS] + records();
            starts[row] = from;
            nameLengths[row] = nameLength;
            dataLengths[row] = bytes.length - from - nameLength;
            types[row] = type;
            kinds[row] = kind;
            times[row] = time;
            rows[section][sizes[section]] = row;
            sizes[section]++;
            return true;
        }

        private int rowOf(int section, int k) {
            if (section < 0 || section >= SECTIONS || k < 0 || k >= sizes[section]) {
                return -1;
            }
            return rows[section][k];
        }

        private boolean isNeverLeftOut(int section, int row) {
            return section == ADDITIONALS && types[row] == Kinds.ROOT_ONLY;
        }

        /** The length of a record whose name is the root. */
        private int lengthUnderRoot(int row) {
            return 1 + RECORD_FIXED + dataLengths[row];
        }

        private int bytesNeverLeftOut() {
            int sum = 0;
            for (int k = 0; k < sizes[ADDITIONALS]; k++) {
                int row = rows[ADDITIONALS][k];
                if (isNeverLeftOut(ADDITIONALS, row)) {
                    sum += lengthUnderRoot(row);
                }
            }
            return sum;
        }
    }

    /** Takes the tape apart and puts names and data, freed of pointers, behind what is gathered. */
    private static final class Reader {
        // Labels are few, and the pointers of one name lead to ever lower places below 16,384.
        private static final int MOST_STEPS = POINTABLE + MOST_NAME;

        private final Bytes tape;
        private final Gathered gathered;
        private int fault;
        private int faultPlace;
        private int next;
        private int followed;
        private int ownerLength;
        private int dataStart;

        private Reader(Bytes tape, Gathered gathered) {
            this.tape = tape;
            this.gathered = gathered;
        }

        private boolean fail(int kind, int place) {
            fault = kind;
            faultPlace = place;
            return false;
        }

        /** The fault of the tape as a message, 0 if there is none. */
        private int takeMessage() {
            fault = 0;
            faultPlace = -1;
            followed = 0;
            gathered.startAnew(tape.twoAt(0), tape.twoAt(2));
            next = HEADER;
            boolean good = tape.length >= HEADER || fail(FAULT_SHORT, 0);
            for (int section = 0; section < SECTIONS; section++) {
                int due = tape.twoAt(4 + 2 * section);
                for (int k = 0; k < due && good; k++) {
                    good = section == QUESTIONS ? takeQuestion() : takeRecord(section);
                }
            }
            if (good && next != tape.length) {
                fail(FAULT_BEHIND, next);
            }
            if (fault != 0) {
                gathered.startAnew(0, 0);
            }
            return fault;
        }

        private boolean takeQuestion() {
            int start = next;
            int from = gathered.bytes.length;
            if (!takeOwner(start)) {
                return false;
            }
            int fixed = next;
            if (fixed + QUESTION_FIXED > tape.length) {
                return fail(FAULT_SHORT, fixed);
            }
            next = fixed + QUESTION_FIXED;
            boolean kept = gathered.keep(QUESTIONS, from, ownerLength, tape.twoAt(fixed), tape.twoAt(fixed + 2), 0);
            return kept || fail(FAULT_MUCH, start);
        }

        private boolean takeRecord(int section) {
            int start = next;
            int from = gathered.bytes.length;
            if (!takeOwner(start)) {
                return false;
            }
            int fixed = next;
            int data = fixed + RECORD_FIXED;
            if (data > tape.length) {
                return fail(FAULT_SHORT, fixed);
            }
            int behind = data + tape.twoAt(fixed + 8);
            if (behind > tape.length) {
                return fail(FAULT_SHORT, data);
            }
            int type = tape.twoAt(fixed);
            if (!takeData(type, data, behind)) {
                return false;
            }
            next = behind;
            int kind = tape.twoAt(fixed + 2);
            boolean kept = gathered.keep(section, from, ownerLength, type, kind, tape.fourAt(fixed + 4));
            return kept || fail(FAULT_MUCH, start);
        }

        private boolean takeTapeAsName() {
            int from = gathered.bytes.length;
            followed = 0;
            boolean good = takeOwner(0) && next == tape.length && followed == 0;
            return good || takeBackTo(from);
        }

        private boolean takeTapeAsNameAndData(int type) {
            int from = gathered.bytes.length;
            followed = 0;
            boolean good = takeOwner(0) && takeData(type, next, tape.length) && followed == 0;
            return good || takeBackTo(from);
        }

        private boolean takeBackTo(int from) {
            gathered.bytes.length = from;
            return false;
        }

        private boolean takeOwner(int start) {
            int from = gathered.bytes.length;
            boolean good = takeName(start, tape.length);
            ownerLength = gathered.bytes.length - from;
            return good;
        }

        /** Takes a name; bound is the end of the data in which it stands, or of the tape. */
        private boolean takeName(int start, int bound) {
            int at = start;
            int lowest = start;
            int size = 0;
            boolean pointed = false;
            for (int step = 0; step < MOST_STEPS; step++) {
                if (at >= tape.length) {
                    return fail(FAULT_SHORT, at);
                }
                int lead = tape.at(at);
                int reach = pointed ? tape.length : bound;
                if (lead == 0) {
                    gathered.bytes.put(0);
                    next = pointed ? next : at + 1;
                    return next <= bound || fail(FAULT_DATA, dataStart);
                }
                if (lead >= FIRST_POINTER_BYTE) {
                    int target = tape.twoAt(at) & (POINTABLE - 1);
                    if (!isGoodPointer(at, reach, target, lowest)) {
                        return false;
                    }
                    next = pointed ? next : at + 2;
                    pointed = true;
                    followed++;
                    lowest = target;
                    at = target;
                } else {
                    if (!isGoodLabel(at, lead, reach, start, size)) {
                        return false;
                    }
                    gathered.bytes.putFrom(tape, at, lead + 1);
                    size += lead + 1;
                    at += lead + 1;
                }
            }
            return fail(FAULT_POINTER, at);
        }

        private boolean isGoodPointer(int at, int reach, int target, int lowest) {
            if (at + 2 > tape.length) {
                return fail(FAULT_SHORT, at);
            }
            if (at + 2 > reach) {
                return fail(FAULT_DATA, dataStart);
            }
            return target < lowest || fail(FAULT_POINTER, at);
        }

        private boolean isGoodLabel(int at, int lead, int reach, int nameStart, int sizeBefore) {
            int behind = at + 1 + lead;
            if (lead > LONGEST_LABEL) {
                return fail(FAULT_LENGTH, at);
            }
            // The 0 that must still come counts, too.
            if (sizeBefore + 1 + lead + 1 > MOST_NAME) {
                return fail(FAULT_NAME, nameStart);
            }
            // A label has its length before it, so it is the label alone that is not there whole.
            if (behind > tape.length) {
                return fail(FAULT_SHORT, at + 1);
            }
            return behind <= reach || fail(FAULT_DATA, dataStart);
        }

        private boolean takeData(int type, int from, int to) {
            dataStart = from;
            if (Kinds.namesIn(type) > 0) {
                return takeDataWithNames(type, from, to);
            }
            if (!isAsItsType(type, from, to)) {
                return fail(FAULT_DATA, from);
            }
            gathered.bytes.putFrom(tape, from, to - from);
            return true;
        }

        private boolean isAsItsType(int type, int from, int to) {
            if (type == Kinds.STRINGS) {
                return areStrings(from, to);
            }
            if (type == Kinds.ROOT_ONLY) {
                return ownerLength == 1;
            }
            int size = Kinds.fixedSize(type);
            return size < 0 || size == to - from;
        }

        private boolean areStrings(int from, int to) {
            int at = from;
            while (at < to) {
                at += 1 + tape.at(at);
            }
            return from < to && at == to;
        }

        private boolean takeDataWithNames(int type, int from, int to) {
            int before = Kinds.bytesBeforeNames(type);
            int behind = Kinds.bytesBehindNames(type);
            int names = Kinds.namesIn(type);
            int followedBefore = followed;
            if (from + before > to) {
                return fail(FAULT_DATA, from);
            }
            gathered.bytes.putFrom(tape, from, before);
            next = from + before;
            for (int k = 0; k < names; k++) {
                if (!takeName(next, to)) {
                    return false;
                }
            }
            // Told only now, because faults 1 to 4 of the name come first.
            boolean pointsInVain = followed > followedBefore && !Kinds.sharesNames(type);
            if (pointsInVain || next + behind != to) {
                return fail(FAULT_DATA, from);
            }
            gathered.bytes.putFrom(tape, next, behind);
            return true;
        }
    }

    /** The ends of names that stand in the message below the highest place that a pointer can tell. */
    private static final class Ends {
        private static final int BUCKETS = 4_096;
        // A label takes two bytes at least.
        private static final int MOST_ENDS = POINTABLE / 2;

        private final Bytes source;
        // One above the newest end of each bucket, 0 for none: a new row of numbers is then an empty table.
        private final int[] newest = new int[BUCKETS];
        private final int[] older = new int[MOST_ENDS];
        private final int[] marks = new int[MOST_ENDS];
        private final int[] places = new int[MOST_ENDS];
        private final int[] sources = new int[MOST_ENDS];
        private int size;

        private Ends(Bytes source) {
            this.source = source;
        }

        private static int bucketOf(int mark) {
            return (mark ^ mark >>> 12 ^ mark >>> 24) & (BUCKETS - 1);
        }

        private void add(int mark, int from, int place) {
            if (place >= POINTABLE || size >= MOST_ENDS) {
                return;
            }
            int bucket = bucketOf(mark);
            marks[size] = mark;
            places[size] = place;
            sources[size] = from;
            older[size] = newest[bucket];
            size++;
            newest[bucket] = size;
        }

        /** Forgets the youngest ends, so that only so many stay. */
        private void shrinkTo(int staying) {
            for (int k = size - 1; k >= staying; k--) {
                newest[bucketOf(marks[k])] = older[k];
            }
            size = Math.min(size, staying);
        }

        /** The place of the end that has these bytes, -1 if there is none. */
        private int placeOf(int mark, int from, int length) {
            int k = newest[bucketOf(mark)] - 1;
            for (int step = 0; step < MOST_ENDS && k >= 0; step++) {
                if (marks[k] == mark && equalBytes(sources[k], from, length)) {
                    return places[k];
                }
                k = older[k] - 1;
            }
            return -1;
        }

        private boolean equalBytes(int a, int b, int length) {
            for (int i = 0; i < length; i++) {
                if (source.at(a + i) != source.at(b + i)) {
                    return false;
                }
            }
            return true;
        }
    }

    /** Writes what is gathered as a message. */
    private static final class Writer {
        private final Gathered gathered;
        private final Bytes message = new Bytes();
        private final Ends ends;
        private final int[] labelStarts = new int[MOST_LABELS];
        private final int[] labelMarks = new int[MOST_LABELS];
        private int pointers;

        private Writer(Gathered gathered) {
            this.gathered = gathered;
            ends = new Ends(gathered.bytes);
        }

        /** The limit has room for the header and for what is never left out. */
        private void compose(int limit) {
            int stillToCome = gathered.bytesNeverLeftOut();
            boolean cut = false;
            message.length = HEADER;
            pointers = 0;
            ends.shrinkTo(0);
            for (int section = 0; section < SECTIONS; section++) {
                int kept = 0;
                for (int k = 0; k < gathered.sizes[section]; k++) {
                    int row = gathered.rows[section][k];
                    boolean stays = gathered.isNeverLeftOut(section, row);
                    if (stays) {
                        stillToCome -= gathered.lengthUnderRoot(row);
                    }
                    if (cut && !stays) {
                        continue;
                    }
                    if (putIfFits(section, row, limit - stillToCome)) {
                        kept++;
                    } else {
                        cut = cut || section < ADDITIONALS;
                    }
                }
                message.setTwo(4 + 2 * section, kept);
            }
            message.setTwo(0, gathered.id);
            message.setTwo(2, cut ? gathered.flags | CUT_FLAG : gathered.flags);
        }

        private boolean putIfFits(int section, int row, int limit) {
            int lengthBefore = message.length;
            int pointersBefore = pointers;
            int endsBefore = ends.size;
            putSharedName(gathered.starts[row]);
            message.putTwo(gathered.types[row]);
            message.putTwo(gathered.kinds[row]);
            if (section != QUESTIONS) {
                message.putFour(gathered.times[row]);
                putData(row);
            }
            if (message.length <= limit) {
                return true;
            }
            message.length = lengthBefore;
            pointers = pointersBefore;
            ends.shrinkTo(endsBefore);
            return false;
        }

        private void putData(int row) {
            int type = gathered.types[row];
            int from = gathered.starts[row] + gathered.nameLengths[row];
            int to = from + gathered.dataLengths[row];
            int lengthPlace = message.length;
            message.putTwo(0);
            int at = from;
            if (Kinds.sharesNames(type)) {
                int before = Kinds.bytesBeforeNames(type);
                int names = Kinds.namesIn(type);
                message.putFrom(gathered.bytes, at, before);
                at += before;
                for (int k = 0; k < names; k++) {
                    at = putSharedName(at);
                }
            }
            message.putFrom(gathered.bytes, at, to - at);
            message.setTwo(lengthPlace, message.length - lengthPlace - 2);
        }

        /** Puts the name that stands there among what is gathered: where it ends there. */
        private int putSharedName(int from) {
            Bytes source = gathered.bytes;
            int labels = Names.findLabels(source, from, labelStarts);
            int root = labels == 0 ? from : labelStarts[labels - 1] + 1 + source.at(labelStarts[labels - 1]);
            markEnds(labels, root);
            int place = -1;
            for (int k = 0; k < labels && place < 0; k++) {
                int start = labelStarts[k];
                place = ends.placeOf(labelMarks[k], start, root + 1 - start);
                if (place < 0) {
                    ends.add(labelMarks[k], start, message.length);
                    message.putFrom(source, start, source.at(start) + 1);
                }
            }
            if (place < 0) {
                message.put(0);
            } else {
                message.putTwo(FIRST_POINTER_BYTE << 8 | place);
                pointers++;
            }
            return root + 1;
        }

        /** Marks each end of a name by a number that equal ends share. */
        private void markEnds(int labels, int root) {
            int mark = 0;
            int label = labels - 1;
            for (int i = root - 1; i >= 0 && label >= 0; i--) {
                mark = mark * 31 + gathered.bytes.at(i);
                if (i == labelStarts[label]) {
                    labelMarks[label] = mark;
                    label--;
                }
            }
        }
    }

    /** Compares names that stand without pointers in a row of bytes. */
    private static final class Names {
        private final Bytes source;
        private final int[] labels = new int[MOST_LABELS];
        private final int[] otherLabels = new int[MOST_LABELS];

        private Names(Bytes source) {
            this.source = source;
        }

        /** Notes where the labels of a name start: how many there are. */
        private static int findLabels(Bytes source, int from, int[] into) {
            int at = from;
            int found = 0;
            while (found < into.length && source.at(at) != 0) {
                into[found] = at;
                found++;
                at += 1 + source.at(at);
            }
            return found;
        }

        private int compare(int from, int otherFrom) {
            int mine = findLabels(source, from, labels);
            int others = findLabels(source, otherFrom, otherLabels);
            int shared = Math.min(mine, others);
            for (int k = 1; k <= shared; k++) {
                int way = compareLabels(labels[mine - k], otherLabels[others - k]);
                if (way != 0) {
                    return way;
                }
            }
            return wayFrom(mine, others);
        }

        private int compareLabels(int at, int otherAt) {
            int length = source.at(at);
            int otherLength = source.at(otherAt);
            int shared = Math.min(length, otherLength);
            for (int i = 1; i <= shared; i++) {
                int way = wayFrom(lowered(source.at(at + i)), lowered(source.at(otherAt + i)));
                if (way != 0) {
                    return way;
                }
            }
            return wayFrom(length, otherLength);
        }

        private static int wayFrom(int a, int b) {
            if (a == b) {
                return 0;
            }
            return a < b ? -1 : 1;
        }

        private static int lowered(int value) {
            return value >= 'A' && value <= 'Z' ? value + 32 : value;
        }
    }
}
