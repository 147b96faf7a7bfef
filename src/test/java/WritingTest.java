import java.util.Arrays;

/** Writings (promises 9, 11 and 17): names that share their ends, and the limit. */
public final class WritingTest {
    private static final byte[] FOUR = Bench.bytes(1, 2, 3, 4);
    private static final byte[] ROOT = Bench.bytes(0);

    private WritingTest() {
    }

    public static void main(String[] args) {
        sharedEnds();
        byteForByte();
        namesInData();
        wholeNames();
        cutQuestions();
        cutAnswers();
        leftOutAdditionals();
        leftOutNames();
        neverLeftOut();
        elsewhereLeftOut();
        everyLimit();
        highestPlace();
        longMessage();
        manyLabels();
        Bench.finish();
    }

    private static void writeDue(String what, WireMessages x, int limit, int pointers, byte[]... parts) {
        byte[] want = Bench.all(parts);
        Bench.due(what + ": write(" + limit + ")", x.write(limit), want.length);
        Bench.due(what + ": count(1)", x.count(1), want.length);
        Bench.dueBytes(what + ": the message", Bench.message(x), want);
        Bench.due(what + ": count(2)", x.count(2), pointers);
    }

    private static byte[] a(byte[] name) {
        return Bench.entry(name, 1, 1, 60, FOUR);
    }

    private static void sharedEnds() {
        WireMessages x = new WireMessages();
        x.begin(1, 2);
        Bench.ask(x, Bench.name("www.a.b"), 1, 1);
        Bench.add(x, 1, Bench.name("a.b"), 1, FOUR);
        Bench.add(x, 1, Bench.name("x.a.b"), 1, FOUR);
        Bench.add(x, 2, Bench.name("y.x.a.b"), 1, FOUR);
        Bench.add(x, 3, Bench.name("x.a.b"), 1, FOUR);
        Bench.add(x, 3, Bench.name("a"), 1, FOUR);
        Bench.add(x, 3, Bench.name("b"), 1, FOUR);
        Bench.add(x, 3, Bench.name(""), 1, FOUR);
        Bench.add(x, 3, Bench.name("a"), 1, FOUR);
        writeDue("shared ends", x, 512, 6, Bench.head(1, 2, 1, 2, 1, 5), Bench.asked(Bench.name("www.a.b"), 1, 1),
                a(Bench.pointer(16)), a(Bench.all(Bench.label("x"), Bench.pointer(16))),
                a(Bench.all(Bench.label("y"), Bench.pointer(41))), a(Bench.pointer(41)), a(Bench.name("a")),
                a(Bench.pointer(18)), a(ROOT), a(Bench.pointer(93)));
    }

    private static void byteForByte() {
        WireMessages x = new WireMessages();
        Bench.ask(x, Bench.name("a.b"), 1, 1);
        Bench.add(x, 1, Bench.name("A.b"), 1, FOUR);
        Bench.add(x, 1, Bench.name("a.B"), 1, FOUR);
        Bench.add(x, 1, Bench.name("A.b"), 1, FOUR);
        // The bytes of a.b stand in this label, but not as the end of a name.
        Bench.add(x, 1, Bench.bytes(5, 1, 'z', 1, 'b', 0, 0), 1, FOUR);
        Bench.add(x, 1, Bench.name("z.b"), 1, FOUR);
        // These two labels have the same mark in the table of ends.
        Bench.add(x, 1, Bench.name("aA.b"), 1, FOUR);
        Bench.add(x, 1, Bench.name("BB.b"), 1, FOUR);
        Bench.add(x, 1, Bench.name("aA.b"), 1, FOUR);
        Bench.add(x, 1, Bench.name("BB.b"), 1, FOUR);
        writeDue("byte for byte", x, 512, 7, Bench.head(0, 0, 1, 9, 0, 0), Bench.asked(Bench.name("a.b"), 1, 1),
                a(Bench.all(Bench.label("A"), Bench.pointer(14))), a(Bench.name("a.B")), a(Bench.pointer(21)),
                a(Bench.bytes(5, 1, 'z', 1, 'b', 0, 0)), a(Bench.all(Bench.label("z"), Bench.pointer(14))),
                a(Bench.all(Bench.label("aA"), Bench.pointer(14))), a(Bench.all(Bench.label("BB"), Bench.pointer(14))),
                a(Bench.pointer(113)), a(Bench.pointer(132)));
    }

    private static void namesInData() {
        for (int type : new int[] {2, 5, 12}) {
            WireMessages x = new WireMessages();
            Bench.add(x, 1, Bench.name("a.b"), type, Bench.name("c.b"));
            Bench.add(x, 1, Bench.name("c.b"), type, Bench.name("d.c.b"));
            writeDue("type " + type, x, 512, 3, Bench.head(0, 0, 0, 2, 0, 0),
                    Bench.entry(Bench.name("a.b"), type, 1, 60, Bench.all(Bench.label("c"), Bench.pointer(14))),
                    Bench.entry(Bench.pointer(27), type, 1, 60, Bench.all(Bench.label("d"), Bench.pointer(27))));
        }
        WireMessages y = new WireMessages();
        Bench.add(y, 2, Bench.name("b"), 15, Bench.all(Bench.two(500), Bench.name("m.b")));
        Bench.add(y, 2, Bench.name("m.b"), 6, Bench.all(Bench.name("q.r"), Bench.name("r"), Bench.filled(20, 9)));
        writeDue("types 15 and 6", y, 512, 3, Bench.head(0, 0, 0, 0, 2, 0),
                Bench.entry(Bench.name("b"), 15, 1, 60, Bench.all(Bench.two(500), Bench.label("m"), Bench.pointer(12))),
                Bench.entry(Bench.pointer(27), 6, 1, 60,
                        Bench.all(Bench.name("q.r"), Bench.pointer(45), Bench.filled(20, 9))));
    }

    private static void wholeNames() {
        WireMessages x = new WireMessages();
        byte[] service = Bench.all(Bench.filled(6, 1), Bench.name("s.b"));
        Bench.add(x, 1, Bench.name("b"), 33, service);
        Bench.add(x, 1, Bench.name("s.b"), 99, Bench.name("t.b"));
        Bench.add(x, 1, Bench.name("t.b"), 16, Bench.label("b"));
        writeDue("whole names", x, 512, 2, Bench.head(0, 0, 0, 3, 0, 0),
                Bench.entry(Bench.name("b"), 33, 1, 60, service),
                Bench.entry(Bench.all(Bench.label("s"), Bench.pointer(12)), 99, 1, 60, Bench.name("t.b")),
                Bench.entry(Bench.all(Bench.label("t"), Bench.pointer(12)), 16, 1, 60, Bench.label("b")));
    }

    private static void cutQuestions() {
        WireMessages x = new WireMessages();
        Bench.ask(x, Bench.name("a"), 1, 1);
        Bench.ask(x, Bench.name("bbbb"), 1, 1);
        Bench.ask(x, ROOT, 1, 1);
        Bench.add(x, 1, ROOT, 99, Bench.bytes());
        Bench.add(x, 3, ROOT, 99, Bench.bytes());
        Bench.add(x, 3, ROOT, 41, Bench.bytes(7));
        byte[] first = Bench.asked(Bench.name("a"), 1, 1);
        byte[] kept = Bench.entry(ROOT, 41, 1, 60, Bench.bytes(7));
        writeDue("the second question is cut", x, 40, 0, Bench.head(0, 512, 1, 0, 0, 1), first, kept);
        writeDue("the second question just not", x, 41, 0, Bench.head(0, 512, 2, 0, 0, 1), first,
                Bench.asked(Bench.name("bbbb"), 1, 1), kept);
        writeDue("the first question is cut", x, 30, 0, Bench.head(0, 512, 0, 0, 0, 1), kept);
    }

    private static void cutAnswers() {
        for (int section = 1; section <= 2; section++) {
            WireMessages x = new WireMessages();
            x.begin(0, 0xFDFF);
            Bench.add(x, section, ROOT, 1, FOUR);
            Bench.add(x, section, ROOT, 28, new byte[16]);
            Bench.add(x, section, ROOT, 99, Bench.bytes());
            Bench.add(x, 2, ROOT, 99, Bench.bytes());
            Bench.add(x, 3, ROOT, 99, Bench.bytes());
            int ones = section == 1 ? 1 : 0;
            writeDue("cut in " + section, x, 53, 0, Bench.head(0, 0xFFFF, 0, ones, 1 - ones, 0), a(ROOT));
            Bench.due("the flags stay", x.header(1), 0xFDFF);
            Bench.due("no cut in " + section, x.write(54 + 33), 54 + 33);
            Bench.due("no flag", x.written(2) << 8 | x.written(3), 0xFDFF);
        }
    }

    private static void leftOutAdditionals() {
        WireMessages x = new WireMessages();
        Bench.add(x, 1, ROOT, 1, FOUR);
        Bench.add(x, 3, ROOT, 28, new byte[16]);
        Bench.add(x, 3, ROOT, 1, FOUR);
        Bench.add(x, 3, ROOT, 28, new byte[16]);
        Bench.add(x, 3, ROOT, 99, Bench.bytes());
        writeDue("additionals", x, 53, 0, Bench.head(0, 0, 0, 1, 0, 2), a(ROOT), a(ROOT),
                Bench.entry(ROOT, 99, 1, 60, Bench.bytes()));
        writeDue("additionals, shorter", x, 52, 0, Bench.head(0, 0, 0, 1, 0, 1), a(ROOT), a(ROOT));
    }

    private static void leftOutNames() {
        WireMessages x = new WireMessages();
        Bench.add(x, 1, Bench.name("b"), 1, FOUR);
        Bench.add(x, 3, Bench.name("a.b"), 99, Bench.filled(50, 1));
        Bench.add(x, 3, Bench.name("a.b"), 1, FOUR);
        Bench.add(x, 3, Bench.name("c.b"), 2, Bench.all(Bench.nameOf(60, 'q')));
        Bench.add(x, 3, Bench.name("c.b"), 1, FOUR);
        writeDue("names that were left out", x, 90, 2, Bench.head(0, 0, 0, 1, 0, 2), a(Bench.name("b")),
                a(Bench.all(Bench.label("a"), Bench.pointer(12))), a(Bench.all(Bench.label("c"), Bench.pointer(12))));
        writeDue("names again", x, 65_535, 4, Bench.head(0, 0, 0, 1, 0, 4), a(Bench.name("b")),
                Bench.entry(Bench.all(Bench.label("a"), Bench.pointer(12)), 99, 1, 60, Bench.filled(50, 1)),
                a(Bench.pointer(29)),
                Bench.entry(Bench.all(Bench.label("c"), Bench.pointer(12)), 2, 1, 60, Bench.nameOf(60, 'q')),
                a(Bench.pointer(29 + 64 + 16)));
    }

    private static void neverLeftOut() {
        WireMessages x = new WireMessages();
        Bench.add(x, 1, ROOT, 1, FOUR);
        Bench.add(x, 3, ROOT, 41, Bench.bytes(1, 2));
        Bench.add(x, 3, ROOT, 1, FOUR);
        Bench.add(x, 3, ROOT, 41, Bench.bytes(3));
        byte[] first = Bench.entry(ROOT, 41, 1, 60, Bench.bytes(1, 2));
        byte[] second = Bench.entry(ROOT, 41, 1, 60, Bench.bytes(3));
        int both = first.length + second.length;
        writeDue("all", x, 12 + both + 30, 0, Bench.head(0, 0, 0, 1, 0, 3), a(ROOT), first, a(ROOT), second);
        writeDue("one additional out", x, 12 + both + 29, 0, Bench.head(0, 0, 0, 1, 0, 2), a(ROOT), first, second);
        writeDue("the answer in", x, 12 + both + 15, 0, Bench.head(0, 0, 0, 1, 0, 2), a(ROOT), first, second);
        writeDue("the answer out", x, 12 + both + 14, 0, Bench.head(0, 512, 0, 0, 0, 2), first, second);
        writeDue("these alone", x, 12 + both, 0, Bench.head(0, 512, 0, 0, 0, 2), first, second);
        Bench.dueThrow("too long", UnsupportedOperationException.class, () -> x.write(12 + both - 1));
        Bench.due("the message before stays", x.count(1), 12 + both);
        Bench.due("and its flags", x.written(2), 2);
    }

    private static void elsewhereLeftOut() {
        WireMessages x = new WireMessages();
        Bench.add(x, 1, ROOT, 41, Bench.bytes());
        Bench.add(x, 2, ROOT, 41, Bench.bytes());
        writeDue("41 in section 2", x, 33, 0, Bench.head(0, 512, 0, 1, 0, 0), Bench.entry(ROOT, 41, 1, 60, Bench.bytes()));
        writeDue("41 in section 1", x, 22, 0, Bench.head(0, 512, 0, 0, 0, 0));
    }

    /** The same things to both, then each limit. */
    private static void everyLimit() {
        WireMessages x = new WireMessages();
        Model model = new Model();
        byte[] row = Bench.all(Bench.head(9, 0x0100, 2, 3, 2, 5), Bench.asked(Bench.name("a.b"), 1, 1),
                Bench.asked(Bench.name("c.b"), 1, 1), a(Bench.name("d.c.b")),
                Bench.entry(Bench.name("d.c.b"), 2, 1, 60, Bench.name("e.d.c.b")), a(Bench.name("e.d.c.b")),
                Bench.entry(Bench.name("f"), 6, 1, 60, Bench.all(Bench.name("g.f"), Bench.name("h.g.f"), new byte[20])),
                a(Bench.name("h.g.f")), Bench.entry(Bench.name("i.f"), 99, 1, 60, Bench.filled(30, 1)), a(Bench.name("i.f")),
                Bench.entry(ROOT, 41, 1, 60, FOUR), a(Bench.name("i.f")), a(ROOT));
        for (int limit = 12; limit < 300; limit++) {
            if (limit % 100 == 12) {
                x = new WireMessages();
                model = new Model();
                layBoth(x, model, row);
                Bench.due("read", x.read(), model.read());
            }
            int now = limit;
            if (limit < 27) {
                WireMessages y = x;
                Bench.dueThrow("write(" + limit + ")", UnsupportedOperationException.class, () -> y.write(now));
            } else {
                Bench.due("write(" + limit + ")", x.write(limit), model.write(limit));
                Bench.due("pointers with " + limit, x.count(2), model.count(2));
                Bench.dueBytes("message with " + limit, Bench.message(x), model.message());
            }
        }
    }

    private static void layBoth(WireMessages x, Model model, byte[] row) {
        Bench.lay(x, row);
        byte[] longer = Arrays.copyOf(row, (row.length + 19) / 20 * 20);
        for (int i = 0; i < longer.length; i += 20) {
            int[] n = new int[5];
            for (int k = 0; k < 20; k++) {
                n[k / 4] = n[k / 4] << 8 | longer[i + k] & 255;
            }
            model.feed(n[0], n[1], n[2], n[3], n[4]);
        }
        model.end(row.length);
    }

    private static void highestPlace() {
        for (int place : new int[] {16_382, 16_383, 16_384}) {
            WireMessages x = new WireMessages();
            Bench.lay(x, Bench.growing(3, 80));
            Bench.due("growing", x.read(), 0);
            int length = x.write(65_535);
            Bench.add(x, 1, ROOT, 99, new byte[place - length - 11]);
            Bench.due("grown", x.write(65_535), place);
            int pointers = x.count(2);
            for (String name : new String[] {"edge.one", "edge.one", "x.one", "one", "y.edge.one"}) {
                Bench.add(x, 1, Bench.name(name), 1, FOUR);
            }
            byte[] edge = place < 16_384 ? Bench.pointer(place) : Bench.name("edge.one");
            byte[] want = Bench.all(a(Bench.name("edge.one")), a(edge), a(Bench.name("x.one")), a(Bench.name("one")),
                    a(Bench.all(Bench.label("y"), edge)));
            Bench.due("at " + place, x.write(65_535), place + want.length);
            for (int i = 0; i < want.length; i++) {
                Bench.due("at " + place + ": byte " + i, x.written(place + i), want[i] & 255);
            }
            Bench.due("pointers at " + place, x.count(2) - pointers, place < 16_384 ? 2 : 0);
        }
    }

    /** Each new object is looked at for so many bytes as its calls allow. */
    private static void longMessage() {
        byte[] row = Bench.growing(7, 330);
        Model model = new Model();
        layBoth(new WireMessages(), model, row);
        model.read();
        for (int limit : new int[] {65_535, 40_000}) {
            int length = model.write(limit);
            for (int from = 0; from < length; from += 150) {
                WireMessages x = new WireMessages();
                Bench.lay(x, row);
                x.read();
                Bench.due("a long message", x.write(limit), length);
                for (int i = from; i < Math.min(length, from + 150); i++) {
                    Bench.due("byte " + i + " of a long message", x.written(i), model.written(i));
                }
                Bench.due("pointers of a long message", x.count(2), model.count(2));
            }
        }
    }

    private static void manyLabels() {
        WireMessages x = new WireMessages();
        byte[] most = Bench.all(Bench.labels("a.".repeat(127)), ROOT);
        byte[] other = Bench.all(Bench.label("b"), Bench.labels("a.".repeat(126)), ROOT);
        Bench.ask(x, most, 1, 1);
        Bench.ask(x, other, 1, 1);
        Bench.ask(x, most, 1, 1);
        writeDue("127 labels", x, 512, 2, Bench.head(0, 0, 3, 0, 0, 0), Bench.asked(most, 1, 1),
                Bench.asked(Bench.all(Bench.label("b"), Bench.pointer(14)), 1, 1), Bench.asked(Bench.pointer(12), 1, 1));
        Bench.due("127 labels: order", x.order(0, 0, 0, 1), -1);
        Bench.due("127 labels: same", x.same(0, 0, 0, 2) ? 1 : 0, 1);
    }
}
