import java.util.Arrays;
import java.util.Random;

/** Random runs of calls, each answer compared with the model's; the seeds are fixed. */
public final class ModelTest {
    private static final int RUNS = 3000;
    private static final int MOST_CALLS = 512;
    private static final int[] TYPES = {1, 28, 2, 5, 12, 15, 6, 33, 16, 41, 41, 99, 0, 65535};
    private static final String[] ENDS = {"", "a", "A", "b.a", "B.a", "example.com", "com", "x.example.com", "b.A"};
    private static final String[] FRONTS = {"", "a.", "b.", "www.", "WWW.", "c.d.", "a.a.", "mail."};

    private final Random random;
    private final WireMessages x = new WireMessages();
    private final Model model = new Model();
    private final StringBuilder calls = new StringBuilder();
    private int made = 0;

    private ModelTest(long seed) {
        random = new Random(seed);
        calls.append("seed ").append(seed).append(": ");
    }

    public static void main(String[] args) {
        for (int seed = 0; seed < RUNS; seed++) {
            new ModelTest(seed).go();
        }
        Bench.finish();
    }

    private static long outcome(Bench.Call call) {
        try {
            return call.answer();
        } catch (RuntimeException e) {
            return Long.MIN_VALUE + e.getClass().getSimpleName().hashCode();
        }
    }

    private void compare(String what, Bench.Call mine, Bench.Call models) {
        if (made == MOST_CALLS) {
            return;
        }
        made++;
        long got = outcome(mine);
        long want = outcome(models);
        calls.append(what).append(' ');
        if (got != want) {
            Bench.due(calls.toString(), got, want);
        }
    }

    private void go() {
        while (made < MOST_CALLS) {
            switch (random.nextInt(9)) {
                case 0 -> begin();
                case 1 -> question();
                case 2, 3, 4 -> record();
                case 5 -> write();
                case 6 -> backAndRead();
                case 7 -> readMade();
                default -> look();
            }
        }
    }

    private int anyInt() {
        switch (random.nextInt(4)) {
            case 0:
                return random.nextInt();
            case 1:
                return random.nextInt(7) - 1;
            default:
                return random.nextInt(70_000);
        }
    }

    private byte[] anyName() {
        int way = random.nextInt(40);
        if (way == 0) {
            return Bench.nameOf(250 + random.nextInt(8), 'q');
        }
        if (way == 1) {
            return Bench.bytes(random.nextInt(256), random.nextInt(256), 0);
        }
        return Bench.name(FRONTS[random.nextInt(FRONTS.length)] + ENDS[random.nextInt(ENDS.length)]);
    }

    private byte[] noise(int length) {
        byte[] row = new byte[length];
        random.nextBytes(row);
        return row;
    }

    private byte[] anyData(int type) {
        int more = random.nextInt(12) == 0 ? random.nextInt(3) : 0;
        byte[] rest = noise(more);
        switch (type) {
            case 1:
                return Bench.all(noise(4), rest);
            case 28:
                return Bench.all(noise(16), rest);
            case 2:
            case 5:
            case 12:
                return Bench.all(anyName(), rest);
            case 15:
                return Bench.all(noise(2), anyName(), rest);
            case 6:
                return Bench.all(anyName(), anyName(), noise(20), rest);
            case 33:
                return Bench.all(noise(6), anyName(), rest);
            case 16:
                return Bench.all(Bench.label("text"), Bench.bytes(0), rest);
            default:
                return Bench.all(noise(random.nextInt(9)), rest);
        }
    }

    private void lay(byte[] row) {
        compare("end(0)", () -> x.end(0), () -> model.end(0));
        for (int i = 0; i < row.length; i += 20) {
            byte[] p = Arrays.copyOf(Arrays.copyOfRange(row, i, Math.min(i + 20, row.length)), 20);
            int[] n = new int[5];
            for (int k = 0; k < 20; k++) {
                n[k / 4] = n[k / 4] << 8 | p[k] & 255;
            }
            compare("feed(" + Arrays.toString(n) + ")", () -> x.feed(n[0], n[1], n[2], n[3], n[4]),
                    () -> model.feed(n[0], n[1], n[2], n[3], n[4]));
        }
        compare("end(" + row.length + ")", () -> x.end(row.length), () -> model.end(row.length));
    }

    private void begin() {
        int id = anyInt();
        int flags = anyInt();
        compare("begin(" + id + ", " + flags + ")", () -> {
            x.begin(id, flags);
            return 0;
        }, () -> {
            model.begin(id, flags);
            return 0;
        });
    }

    private void question() {
        lay(anyName());
        int type = anyInt();
        compare("question(" + type + ", 1)", () -> x.question(type, 1), () -> model.question(type, 1));
    }

    private void record() {
        int type = TYPES[random.nextInt(TYPES.length)];
        byte[] name = type == 41 && random.nextInt(10) > 0 ? Bench.name("") : anyName();
        lay(Bench.all(name, anyData(type)));
        int section = random.nextInt(20) == 0 ? anyInt() : 1 + random.nextInt(3);
        int time = anyInt();
        compare("record(" + section + ", " + type + ", 1, " + time + ")", () -> x.record(section, type, 1, time),
                () -> model.record(section, type, 1, time));
    }

    private void write() {
        int limit = random.nextInt(8) == 0 ? anyInt() : 12 + random.nextInt(model.count(1) + 60);
        compare("write(" + limit + ")", () -> x.write(limit), () -> model.write(limit));
        compareCounts();
        byte[] want = model.message();
        for (int k = 0; k < 10; k++) {
            int i = random.nextInt(want.length + 2) - 1;
            compare("written(" + i + ")", () -> x.written(i), () -> model.written(i));
        }
        if (random.nextInt(10) == 0) {
            for (int k = 0; k < want.length; k++) {
                int i = k;
                compare("written(" + i + ")", () -> x.written(i), () -> model.written(i));
            }
        }
    }

    private void compareCounts() {
        for (int k = 0; k < 4; k++) {
            int what = k;
            compare("count(" + what + ")", () -> x.count(what), () -> model.count(what));
        }
        for (int k = 0; k < 6; k++) {
            int what = k;
            compare("header(" + what + ")", () -> x.header(what), () -> model.header(what));
        }
    }

    private void readNow() {
        compare("read()", x::read, model::read);
        compare("faultAt()", x::faultAt, model::faultAt);
        compareCounts();
    }

    private void backAndRead() {
        int at = random.nextInt(3) == 0 ? -1 : random.nextInt(model.count(1) + 1);
        int with = random.nextInt(3) == 0 ? 0xC0 : random.nextInt(256);
        compare("back(" + at + ", " + with + ")", () -> x.back(at, with), () -> model.back(at, with));
        if (random.nextInt(4) == 0) {
            int length = random.nextInt(model.count(0) + 1);
            compare("end(" + length + ")", () -> x.end(length), () -> model.end(length));
        }
        readNow();
    }

    /** A message with pointers that a writer would not make, often with faults. */
    private void readMade() {
        int[] counts = {random.nextInt(3), random.nextInt(3), random.nextInt(2), random.nextInt(2)};
        byte[] row = Bench.head(anyInt(), anyInt(), counts[0], counts[1], counts[2], counts[3]);
        for (int section = 0; section < 4; section++) {
            for (int k = 0; k < counts[section]; k++) {
                int type = TYPES[random.nextInt(TYPES.length)];
                byte[] name = type == 41 && random.nextInt(3) > 0 ? Bench.bytes(0) : pointing(row.length);
                row = section == 0 ? Bench.all(row, Bench.asked(name, type, 1))
                        : Bench.all(row, entryPointing(row.length, name, type));
            }
        }
        row = Bench.all(row, noise(random.nextInt(15) == 0 ? 1 : 0));
        if (random.nextInt(4) == 0) {
            row[random.nextInt(row.length)] = (byte) random.nextInt(256);
        }
        lay(random.nextInt(6) == 0 ? Arrays.copyOf(row, random.nextInt(row.length + 1)) : row);
        readNow();
        look();
    }

    private byte[] pointing(int place) {
        byte[] front = random.nextBoolean() ? Bench.bytes() : Bench.labels(FRONTS[random.nextInt(FRONTS.length)]);
        switch (random.nextInt(5)) {
            case 0:
                return anyName();
            case 1:
                return Bench.all(front, Bench.pointer(random.nextInt(place + 3)));
            default:
                return Bench.all(front, Bench.pointer(Math.min(place - 1, 12 + random.nextInt(16))));
        }
    }

    private byte[] entryPointing(int place, byte[] name, int type) {
        int data = place + name.length + 10;
        byte[] row;
        switch (type) {
            case 2:
            case 5:
            case 12:
                row = pointing(data);
                break;
            case 15:
                row = Bench.all(noise(2), pointing(data + 2));
                break;
            case 6:
                byte[] first = pointing(data);
                row = Bench.all(first, pointing(data + first.length), noise(20));
                break;
            case 33:
                row = Bench.all(noise(6), random.nextBoolean() ? pointing(data + 6) : anyName());
                break;
            default:
                row = anyData(type);
        }
        byte[] whole = Bench.entry(name, type, 1, anyInt(), row);
        if (random.nextInt(6) == 0) {
            int wrong = Math.max(0, row.length + random.nextInt(7) - 3);
            whole[name.length + 8] = (byte) (wrong >> 8);
            whole[name.length + 9] = (byte) wrong;
        }
        return whole;
    }

    private void look() {
        for (int n = 0; n < 8; n++) {
            int section = random.nextInt(6) - 1;
            int k = random.nextInt(4) - (random.nextInt(8) == 0 ? 1 : 0);
            int what = random.nextInt(7) - 1;
            int i = random.nextInt(40) - 1;
            int other = random.nextInt(4);
            int j = random.nextInt(3);
            compare("told(" + section + ", " + k + ", " + what + ")", () -> x.told(section, k, what),
                    () -> model.told(section, k, what));
            compare("byteOf(" + section + ", " + k + ", " + i + ")", () -> x.byteOf(section, k, i),
                    () -> model.byteOf(section, k, i));
            compare("same(" + section + ", " + k + ", " + other + ", " + j + ")",
                    () -> x.same(section, k, other, j) ? 1 : 0, () -> model.same(section, k, other, j) ? 1 : 0);
            compare("order(" + section + ", " + k + ", " + other + ", " + j + ")", () -> x.order(section, k, other, j),
                    () -> model.order(section, k, other, j));
        }
    }
}
