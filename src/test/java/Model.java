import java.io.ByteArrayOutputStream;
import java.nio.charset.StandardCharsets;
import java.util.ArrayList;
import java.util.Arrays;
import java.util.HashMap;
import java.util.List;
import java.util.Map;
import java.util.NoSuchElementException;

/** The document once more, in the plainest way and with the whole library: slow, but easy to compare with its words. */
final class Model {
    private static final class Fault extends Exception {
        private static final long serialVersionUID = 1;
        final int kind;
        final int place;

        Fault(int kind, int place) {
            this.kind = kind;
            this.place = place;
        }
    }

    private static final class Entry {
        byte[] name;
        int type;
        int kind;
        int time;
        byte[] data = {};
    }

    /** A name without pointers, and what was needed to read it. */
    private static final class Name {
        byte[] bytes;
        int behind;
        int pointers;
    }

    private byte[] tape = {};
    private byte[] message = {};
    private int id;
    private int flags;
    private List<List<Entry>> sections = emptySections();
    private int faultPlace = -1;
    private int followed;
    private int following;
    private int pointersWritten;

    private static List<List<Entry>> emptySections() {
        List<List<Entry>> four = new ArrayList<>();
        for (int k = 0; k < 4; k++) {
            four.add(new ArrayList<>());
        }
        return four;
    }

    private static int two(byte[] row, int at) {
        return (row[at] & 255) << 8 | row[at + 1] & 255;
    }

    int feed(int a, int b, int c, int d, int e) {
        if (tape.length > 65_536 - 20) {
            throw new IllegalStateException();
        }
        tape = Bench.all(tape, Bench.four(a), Bench.four(b), Bench.four(c), Bench.four(d), Bench.four(e));
        return tape.length;
    }

    /** Makes the tape these bytes, as feeding them does. */
    void lay(byte[] row) {
        tape = row.clone();
    }

    int end(int n) {
        if (n < 0 || n > tape.length) {
            throw new IllegalArgumentException();
        }
        tape = Arrays.copyOf(tape, n);
        return n;
    }

    int read() {
        byte[] row = tape;
        tape = new byte[0];
        begin(0, 0);
        following = 0;
        faultPlace = -1;
        List<List<Entry>> read = emptySections();
        try {
            readAll(row, read);
        } catch (Fault fault) {
            faultPlace = fault.place;
            return fault.kind;
        }
        sections = read;
        id = two(row, 0);
        flags = two(row, 2);
        followed = following;
        return 0;
    }

    private void readAll(byte[] row, List<List<Entry>> into) throws Fault {
        if (row.length < 12) {
            throw new Fault(1, 0);
        }
        int at = 12;
        for (int section = 0; section < 4; section++) {
            for (int k = two(row, 4 + 2 * section); k > 0; k--) {
                int start = at;
                Entry entry = new Entry();
                at = readOne(row, at, section > 0, entry);
                into.get(section).add(entry);
                if (tooMuch(into)) {
                    throw new Fault(7, start);
                }
            }
        }
        if (at < row.length) {
            throw new Fault(6, at);
        }
    }

    private static boolean tooMuch(List<List<Entry>> all) {
        int bytes = 0;
        for (List<Entry> section : all) {
            for (Entry entry : section) {
                bytes += entry.name.length + entry.data.length;
            }
        }
        int records = all.get(1).size() + all.get(2).size() + all.get(3).size();
        return all.get(0).size() > 100 || records > 1000 || bytes > 65_536;
    }

    private int readOne(byte[] row, int start, boolean isRecord, Entry entry) throws Fault {
        Name name = name(row, start, -1, row.length);
        entry.name = name.bytes;
        int at = name.behind;
        if (row.length - at < (isRecord ? 10 : 4)) {
            throw new Fault(1, at);
        }
        entry.type = two(row, at);
        entry.kind = two(row, at + 2);
        if (!isRecord) {
            return at + 4;
        }
        entry.time = two(row, at + 4) << 16 | two(row, at + 6);
        int length = two(row, at + 8);
        if (row.length - at - 10 < length) {
            throw new Fault(1, at + 10);
        }
        entry.data = data(row, at + 10, at + 10 + length, entry);
        return at + 10 + length;
    }

    /** With data -1 the name stands in no data. */
    private Name name(byte[] row, int start, int data, int dataEnd) throws Fault {
        ByteArrayOutputStream bytes = new ByteArrayOutputStream();
        Name name = new Name();
        int below = start;
        int at = start;
        while (true) {
            if (at >= row.length) {
                throw new Fault(1, at);
            }
            int lead = row[at] & 255;
            boolean isPointer = lead >= 192;
            if (lead >= 64 && !isPointer) {
                throw new Fault(2, at);
            }
            if (lead == 0) {
                bytes.write(0);
                break;
            }
            if (!isPointer && bytes.size() + 1 + lead > 254) {
                throw new Fault(4, start);
            }
            int behind = isPointer ? at + 2 : at + 1 + lead;
            if (behind > row.length) {
                throw new Fault(1, isPointer ? at : at + 1);
            }
            if (data >= 0 && behind > dataEnd && name.pointers == 0) {
                throw new Fault(5, data);
            }
            if (!isPointer) {
                bytes.write(row, at, lead + 1);
                at = behind;
                continue;
            }
            int place = two(row, at) - 0xC000;
            if (place >= below) {
                throw new Fault(3, at);
            }
            if (name.pointers == 0) {
                name.behind = behind;
            }
            name.pointers++;
            below = place;
            at = place;
        }
        if (name.pointers == 0) {
            name.behind = at + 1;
        }
        if (data >= 0 && name.behind > dataEnd) {
            throw new Fault(5, data);
        }
        following += name.pointers;
        name.bytes = bytes.toByteArray();
        return name;
    }

    private byte[] data(byte[] row, int from, int to, Entry entry) throws Fault {
        byte[] raw = Arrays.copyOfRange(row, from, to);
        boolean good = true;
        if (entry.type == 1) {
            good = raw.length == 4;
        } else if (entry.type == 28) {
            good = raw.length == 16;
        } else if (entry.type == 41) {
            good = entry.name.length == 1;
        } else if (entry.type == 16) {
            good = raw.length > 0 && afterStrings(raw) == raw.length;
        } else if (shape(entry.type) != null) {
            return dataWithNames(row, from, to, entry.type);
        }
        if (!good) {
            throw new Fault(5, from);
        }
        return raw;
    }

    private static int afterStrings(byte[] raw) {
        int at = 0;
        while (at < raw.length) {
            at += 1 + (raw[at] & 255);
        }
        return at;
    }

    /** Bytes before the names, names, bytes behind them. */
    private static int[] shape(int type) {
        Map<Integer, int[]> shapes = Map.of(2, new int[] {0, 1, 0}, 5, new int[] {0, 1, 0}, 12, new int[] {0, 1, 0},
                15, new int[] {2, 1, 0}, 6, new int[] {0, 2, 20}, 33, new int[] {6, 1, 0});
        return shapes.get(type);
    }

    private byte[] dataWithNames(byte[] row, int from, int to, int type) throws Fault {
        int[] shape = shape(type);
        int at = from + shape[0];
        if (at > to) {
            throw new Fault(5, from);
        }
        byte[] sum = Arrays.copyOfRange(row, from, at);
        for (int k = 0; k < shape[1]; k++) {
            Name name = name(row, at, from, to);
            if (type == 33 && name.pointers > 0) {
                throw new Fault(5, from);
            }
            sum = Bench.all(sum, name.bytes);
            at = name.behind;
        }
        if (to - at != shape[2]) {
            throw new Fault(5, from);
        }
        return Bench.all(sum, Arrays.copyOfRange(row, at, to));
    }

    int faultAt() {
        return faultPlace;
    }

    void begin(int newId, int newFlags) {
        id = newId & 0xFFFF;
        flags = newFlags & 0xFFFF;
        sections = emptySections();
    }

    private int gather(int section, Entry entry) {
        List<Entry> list = sections.get(section);
        list.add(entry);
        if (tooMuch(sections)) {
            list.remove(list.size() - 1);
            throw new IllegalStateException();
        }
        tape = new byte[0];
        return list.size();
    }

    int question(int type, int kind) {
        Entry entry = new Entry();
        entry.type = type & 0xFFFF;
        entry.kind = kind & 0xFFFF;
        following = 0;
        try {
            Name name = name(tape, 0, -1, tape.length);
            entry.name = name.bytes;
            if (following > 0 || name.behind != tape.length) {
                throw new IllegalArgumentException();
            }
        } catch (Fault fault) {
            throw new IllegalArgumentException();
        }
        return gather(0, entry);
    }

    int record(int section, int type, int kind, int time) {
        if (section < 1 || section > 3) {
            throw new NoSuchElementException();
        }
        Entry entry = new Entry();
        entry.type = type & 0xFFFF;
        entry.kind = kind & 0xFFFF;
        entry.time = time;
        following = 0;
        try {
            Name name = name(tape, 0, -1, tape.length);
            entry.name = name.bytes;
            entry.data = data(tape, name.behind, tape.length, entry);
            if (following > 0) {
                throw new IllegalArgumentException();
            }
        } catch (Fault fault) {
            throw new IllegalArgumentException();
        }
        return gather(section, entry);
    }

    int write(int limit) {
        if (limit < 12 || limit > 65_535) {
            throw new IllegalArgumentException();
        }
        int reserved = 12;
        for (Entry entry : sections.get(3)) {
            reserved += entry.type == 41 ? 11 + entry.data.length : 0;
        }
        if (reserved > limit) {
            throw new UnsupportedOperationException();
        }
        reserved -= 12;
        byte[] body = new byte[12];
        int[] counts = new int[4];
        Map<String, Integer> ends = new HashMap<>();
        int[] pointers = {0};
        boolean cut = false;
        for (int section = 0; section < 4; section++) {
            for (Entry entry : sections.get(section)) {
                boolean stays = section == 3 && entry.type == 41;
                if (cut && !stays) {
                    continue;
                }
                reserved -= stays ? 11 + entry.data.length : 0;
                Map<String, Integer> endsThen = new HashMap<>(ends);
                int[] pointersThen = pointers.clone();
                byte[] longer = Bench.all(body, shared(body.length, entry.name, endsThen, pointersThen),
                        Bench.two(entry.type), Bench.two(entry.kind));
                if (section > 0) {
                    longer = withData(Bench.all(longer, Bench.four(entry.time)), entry, endsThen, pointersThen);
                }
                if (longer.length + reserved > limit) {
                    cut = section < 3;
                    continue;
                }
                body = longer;
                ends = endsThen;
                pointers = pointersThen;
                counts[section]++;
            }
        }
        byte[] head = Bench.head(id, cut ? flags | 512 : flags, counts[0], counts[1], counts[2], counts[3]);
        System.arraycopy(head, 0, body, 0, 12);
        message = body;
        pointersWritten = pointers[0];
        return message.length;
    }

    private static byte[] withData(byte[] before, Entry entry, Map<String, Integer> ends, int[] pointers) {
        int[] shape = entry.type == 33 ? null : shape(entry.type);
        byte[] data = entry.data;
        if (shape != null) {
            int at = shape[0];
            data = Arrays.copyOf(entry.data, at);
            for (int k = 0; k < shape[1]; k++) {
                int behind = at;
                while (entry.data[behind] != 0) {
                    behind += 1 + entry.data[behind];
                }
                behind++;
                byte[] name = Arrays.copyOfRange(entry.data, at, behind);
                data = Bench.all(data, shared(before.length + 2 + data.length, name, ends, pointers));
                at = behind;
            }
            data = Bench.all(data, Arrays.copyOfRange(entry.data, at, entry.data.length));
        }
        return Bench.all(before, Bench.two(data.length), data);
    }

    private static byte[] shared(int place, byte[] name, Map<String, Integer> ends, int[] pointers) {
        String text = new String(name, StandardCharsets.ISO_8859_1);
        int at = 0;
        List<Integer> fresh = new ArrayList<>();
        byte[] answer = null;
        while (name[at] != 0 && answer == null) {
            Integer known = ends.get(text.substring(at));
            if (known != null) {
                answer = Bench.all(Arrays.copyOf(name, at), Bench.pointer(known));
                pointers[0]++;
            } else {
                fresh.add(at);
                at += 1 + name[at];
            }
        }
        for (int start : fresh) {
            if (place + start < 16_384) {
                ends.putIfAbsent(text.substring(start), place + start);
            }
        }
        return answer == null ? name : answer;
    }

    int back(int at, int with) {
        if (at < -1 || at >= message.length) {
            throw new IndexOutOfBoundsException();
        }
        tape = message.clone();
        if (at >= 0) {
            tape[at] ^= (byte) with;
        }
        return tape.length;
    }

    int written(int i) {
        if (i < 0 || i >= message.length) {
            throw new IndexOutOfBoundsException();
        }
        return message[i] & 255;
    }

    byte[] message() {
        return message;
    }

    int header(int what) {
        if (what < 0 || what > 5) {
            throw new IllegalArgumentException();
        }
        return what == 0 ? id : what == 1 ? flags : sections.get(what - 2).size();
    }

    private Entry one(int section, int k) {
        if (section < 0 || section > 3 || k < 0 || k >= sections.get(section).size()) {
            throw new NoSuchElementException();
        }
        return sections.get(section).get(k);
    }

    int told(int section, int k, int what) {
        Entry entry = one(section, k);
        if (what < 0 || what > (section == 0 ? 2 : 4)) {
            throw new IllegalArgumentException();
        }
        return new int[] {entry.type, entry.kind, entry.name.length, entry.data.length, entry.time}[what];
    }

    int byteOf(int section, int k, int i) {
        Entry entry = one(section, k);
        byte[] both = Bench.all(entry.name, entry.data);
        if (i < 0 || i >= both.length) {
            throw new IndexOutOfBoundsException();
        }
        return both[i] & 255;
    }

    byte[] nameAndData(int section, int k) {
        Entry entry = one(section, k);
        return Bench.all(entry.name, entry.data);
    }

    private static String lowered(byte[] name) {
        StringBuilder text = new StringBuilder();
        for (byte b : name) {
            int value = b & 255;
            text.append((char) (value >= 65 && value <= 90 ? value + 32 : value));
        }
        return text.toString();
    }

    boolean same(int section, int k, int other, int j) {
        return lowered(one(section, k).name).equals(lowered(one(other, j).name));
    }

    private static List<String> labelsFromTheEnd(byte[] name) {
        String text = lowered(name);
        List<String> labels = new ArrayList<>();
        for (int at = 0; name[at] != 0; at += 1 + name[at]) {
            labels.add(0, text.substring(at + 1, at + 1 + name[at]));
        }
        return labels;
    }

    int order(int section, int k, int other, int j) {
        List<String> first = labelsFromTheEnd(one(section, k).name);
        List<String> second = labelsFromTheEnd(one(other, j).name);
        for (int i = 0; i < first.size() && i < second.size(); i++) {
            int way = first.get(i).compareTo(second.get(i));
            if (way != 0) {
                return way < 0 ? -1 : 1;
            }
        }
        return Integer.compare(first.size(), second.size());
    }

    int count(int what) {
        switch (what) {
            case 0:
                return tape.length;
            case 1:
                return message.length;
            case 2:
                return pointersWritten;
            case 3:
                return followed;
            default:
                return -1;
        }
    }
}
