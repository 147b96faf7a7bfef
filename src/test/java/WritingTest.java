/** Writings (promises 9, 11 and 17): names that share their ends, and the limit. */
public final class WritingTest extends Bench {
    private static final byte[] FOUR = bytes(1, 2, 3, 4);

    private WritingTest() {
    }

    public static void main(String[] args) {
        sharedEnds();
        byteForByte();
        namesInData();
        wholeNames();
        cutQuestions();
        cutAnswers();
        leftOutAdditionals();
        leftOutNames();
        neverLeftOut();
        elsewhereLeftOut();
        everyLimit();
        longMessage();
        manyLabels();
        wholeButForAnEnd();
        longestEnd();
        letterCase();
        endsThatGoOn();
        endsOfNamesAlone();
        labelsBeforePointers();
        firstPlace();
        typesThatShare();
        highestPlace();
        limitOfEach();
        nothingBehind();
        onlyItLeftOut();
        onlyCutsSetTheFlag();
        countedFromTheBeginning();
        noNamesLeftBehind();
        otherNamesStay();
        lowestLimit();
        highestLimit();
        whatIsGatheredStays();
        againAndAgain();
        finish();
    }

    private static void writeDue(String what, WireMessages x, int limit, int pointers, byte[]... parts) {
        byte[] want = all(parts);
        due(what + ": write(" + limit + ")", x.write(limit), want.length);
        due(what + ": count(1)", x.count(1), want.length);
        dueBytes(what + ": the message", message(x), want);
        due(what + ": count(2)", x.count(2), pointers);
    }

    private static byte[] a(byte[] name) {
        return entry(name, 1, 1, 60, FOUR);
    }

    private static void sharedEnds() {
        WireMessages x = new WireMessages();
        x.begin(1, 2);
        ask(x, name("www.a.b"), 1, 1);
        add(x, 1, name("a.b"), 1, FOUR);
        add(x, 1, name("x.a.b"), 1, FOUR);
        add(x, 2, name("y.x.a.b"), 1, FOUR);
        add(x, 3, name("x.a.b"), 1, FOUR);
        add(x, 3, name("a"), 1, FOUR);
        add(x, 3, name("b"), 1, FOUR);
        add(x, 3, name(""), 1, FOUR);
        add(x, 3, name("a"), 1, FOUR);
        writeDue("shared ends", x, 512, 6, head(1, 2, 1, 2, 1, 5), asked(name("www.a.b"), 1, 1),
                a(pointer(16)), a(all(label("x"), pointer(16))),
                a(all(label("y"), pointer(41))), a(pointer(41)), a(name("a")),
                a(pointer(18)), a(ROOT), a(pointer(93)));
    }

    private static void byteForByte() {
        WireMessages x = new WireMessages();
        ask(x, name("a.b"), 1, 1);
        add(x, 1, name("A.b"), 1, FOUR);
        add(x, 1, name("a.B"), 1, FOUR);
        add(x, 1, name("A.b"), 1, FOUR);
        // The bytes of a.b stand in this label, but not as the end of a name.
        add(x, 1, bytes(5, 1, 'z', 1, 'b', 0, 0), 1, FOUR);
        add(x, 1, name("z.b"), 1, FOUR);
        // These two labels have the same mark in the table of ends.
        add(x, 1, name("aA.b"), 1, FOUR);
        add(x, 1, name("BB.b"), 1, FOUR);
        add(x, 1, name("aA.b"), 1, FOUR);
        add(x, 1, name("BB.b"), 1, FOUR);
        writeDue("byte for byte", x, 512, 7, head(0, 0, 1, 9, 0, 0), asked(name("a.b"), 1, 1),
                a(all(label("A"), pointer(14))), a(name("a.B")), a(pointer(21)),
                a(bytes(5, 1, 'z', 1, 'b', 0, 0)), a(all(label("z"), pointer(14))),
                a(all(label("aA"), pointer(14))), a(all(label("BB"), pointer(14))),
                a(pointer(113)), a(pointer(132)));
    }

    private static void namesInData() {
        for (int type : new int[] {2, 5, 12}) {
            WireMessages x = new WireMessages();
            add(x, 1, name("a.b"), type, name("c.b"));
            add(x, 1, name("c.b"), type, name("d.c.b"));
            writeDue("type " + type, x, 512, 3, head(0, 0, 0, 2, 0, 0),
                    entry(name("a.b"), type, 1, 60, all(label("c"), pointer(14))),
                    entry(pointer(27), type, 1, 60, all(label("d"), pointer(27))));
        }
        WireMessages y = new WireMessages();
        add(y, 2, name("b"), 15, all(two(500), name("m.b")));
        add(y, 2, name("m.b"), 6, all(name("q.r"), name("r"), filled(20, 9)));
        writeDue("types 15 and 6", y, 512, 3, head(0, 0, 0, 0, 2, 0),
                entry(name("b"), 15, 1, 60, all(two(500), label("m"), pointer(12))),
                entry(pointer(27), 6, 1, 60,
                        all(name("q.r"), pointer(45), filled(20, 9))));
    }

    private static void wholeNames() {
        WireMessages x = new WireMessages();
        byte[] service = all(filled(6, 1), name("s.b"));
        add(x, 1, name("b"), 33, service);
        add(x, 1, name("s.b"), 99, name("t.b"));
        add(x, 1, name("t.b"), 16, label("b"));
        writeDue("whole names", x, 512, 2, head(0, 0, 0, 3, 0, 0),
                entry(name("b"), 33, 1, 60, service),
                entry(all(label("s"), pointer(12)), 99, 1, 60, name("t.b")),
                entry(all(label("t"), pointer(12)), 16, 1, 60, label("b")));
    }

    private static void cutQuestions() {
        WireMessages x = new WireMessages();
        ask(x, name("a"), 1, 1);
        ask(x, name("bbbb"), 1, 1);
        ask(x, ROOT, 1, 1);
        add(x, 1, ROOT, 99, bytes());
        add(x, 3, ROOT, 99, bytes());
        add(x, 3, ROOT, 41, bytes(7));
        byte[] first = asked(name("a"), 1, 1);
        byte[] kept = entry(ROOT, 41, 1, 60, bytes(7));
        writeDue("the second question is cut", x, 40, 0, head(0, 512, 1, 0, 0, 1), first, kept);
        writeDue("the second question just not", x, 41, 0, head(0, 512, 2, 0, 0, 1), first,
                asked(name("bbbb"), 1, 1), kept);
        writeDue("the first question is cut", x, 30, 0, head(0, 512, 0, 0, 0, 1), kept);
    }

    private static void cutAnswers() {
        for (int section = 1; section <= 2; section++) {
            WireMessages x = new WireMessages();
            x.begin(0, 0xFDFF);
            add(x, section, ROOT, 1, FOUR);
            add(x, section, ROOT, 28, new byte[16]);
            add(x, section, ROOT, 99, bytes());
            add(x, 2, ROOT, 99, bytes());
            add(x, 3, ROOT, 99, bytes());
            int ones = section == 1 ? 1 : 0;
            writeDue("cut in " + section, x, 53, 0, head(0, 0xFFFF, 0, ones, 1 - ones, 0), a(ROOT));
            due("the flags stay", x.header(1), 0xFDFF);
            due("no cut in " + section, x.write(54 + 33), 54 + 33);
            due("no flag", x.written(2) << 8 | x.written(3), 0xFDFF);
        }
    }

    private static void leftOutAdditionals() {
        WireMessages x = new WireMessages();
        add(x, 1, ROOT, 1, FOUR);
        add(x, 3, ROOT, 28, new byte[16]);
        add(x, 3, ROOT, 1, FOUR);
        add(x, 3, ROOT, 28, new byte[16]);
        add(x, 3, ROOT, 99, bytes());
        writeDue("additionals", x, 53, 0, head(0, 0, 0, 1, 0, 2), a(ROOT), a(ROOT),
                entry(ROOT, 99, 1, 60, bytes()));
        writeDue("additionals, shorter", x, 52, 0, head(0, 0, 0, 1, 0, 1), a(ROOT), a(ROOT));
    }

    private static void leftOutNames() {
        WireMessages x = new WireMessages();
        add(x, 1, name("b"), 1, FOUR);
        add(x, 3, name("a.b"), 99, filled(50, 1));
        add(x, 3, name("a.b"), 1, FOUR);
        add(x, 3, name("c.b"), 2, all(nameOf(60, 'q')));
        add(x, 3, name("c.b"), 1, FOUR);
        writeDue("names that were left out", x, 90, 2, head(0, 0, 0, 1, 0, 2), a(name("b")),
                a(all(label("a"), pointer(12))), a(all(label("c"), pointer(12))));
        writeDue("names again", x, 65_535, 4, head(0, 0, 0, 1, 0, 4), a(name("b")),
                entry(all(label("a"), pointer(12)), 99, 1, 60, filled(50, 1)),
                a(pointer(29)),
                entry(all(label("c"), pointer(12)), 2, 1, 60, nameOf(60, 'q')),
                a(pointer(29 + 64 + 16)));
    }

    private static void neverLeftOut() {
        WireMessages x = new WireMessages();
        add(x, 1, ROOT, 1, FOUR);
        add(x, 3, ROOT, 41, bytes(1, 2));
        add(x, 3, ROOT, 1, FOUR);
        add(x, 3, ROOT, 41, bytes(3));
        byte[] first = entry(ROOT, 41, 1, 60, bytes(1, 2));
        byte[] second = entry(ROOT, 41, 1, 60, bytes(3));
        int both = first.length + second.length;
        writeDue("all", x, 12 + both + 30, 0, head(0, 0, 0, 1, 0, 3), a(ROOT), first, a(ROOT), second);
        writeDue("one additional out", x, 12 + both + 29, 0, head(0, 0, 0, 1, 0, 2), a(ROOT), first, second);
        writeDue("the answer in", x, 12 + both + 15, 0, head(0, 0, 0, 1, 0, 2), a(ROOT), first, second);
        writeDue("the answer out", x, 12 + both + 14, 0, head(0, 512, 0, 0, 0, 2), first, second);
        writeDue("these alone", x, 12 + both, 0, head(0, 512, 0, 0, 0, 2), first, second);
        dueThrow("too long", UnsupportedOperationException.class, () -> x.write(12 + both - 1));
        due("the message before stays", x.count(1), 12 + both);
        due("and its flags", x.written(2), 2);
    }

    private static void elsewhereLeftOut() {
        WireMessages x = new WireMessages();
        add(x, 1, ROOT, 41, bytes());
        add(x, 2, ROOT, 41, bytes());
        writeDue("41 in section 2", x, 33, 0, head(0, 512, 0, 1, 0, 0), entry(ROOT, 41, 1, 60, bytes()));
        writeDue("41 in section 1", x, 22, 0, head(0, 512, 0, 0, 0, 0));
    }

    /** The same things to the class and to the model, with each limit. */
    private static void everyLimit() {
        byte[] row = all(head(9, 0x0100, 2, 3, 2, 5), asked(name("a.b"), 1, 1), asked(name("c.b"), 1, 1),
                a(name("d.c.b")), entry(name("d.c.b"), 2, 1, 60, name("e.d.c.b")), a(name("e.d.c.b")),
                entry(name("f"), 6, 1, 60, all(name("g.f"), name("h.g.f"), new byte[20])),
                a(name("h.g.f")), entry(name("i.f"), 99, 1, 60, filled(30, 1)), a(name("i.f")),
                entry(ROOT, 41, 1, 60, FOUR), a(name("i.f")), a(ROOT));
        for (int limit = 12; limit < 300; limit++) {
            WireMessages x = new WireMessages();
            Model model = new Model();
            lay(x, row);
            model.lay(row);
            due("read", x.read(), model.read());
            int now = limit;
            if (limit < 27) {
                dueThrow("write(" + limit + ")", UnsupportedOperationException.class, () -> x.write(now));
            } else {
                due("write(" + limit + ")", x.write(limit), model.write(limit));
                due("pointers with " + limit, x.count(2), model.count(2));
                dueBytes("message with " + limit, message(x), model.message());
            }
        }
    }

    /** Each new object is looked at for so many bytes as its calls allow. */
    private static void longMessage() {
        byte[] row = growing(7, 330);
        Model model = new Model();
        model.lay(row);
        model.read();
        for (int limit : new int[] {65_535, 40_000}) {
            int length = model.write(limit);
            for (int from = 0; from < length; from += 150) {
                WireMessages x = new WireMessages();
                lay(x, row);
                x.read();
                due("a long message", x.write(limit), length);
                for (int i = from; i < Math.min(length, from + 150); i++) {
                    due("byte " + i + " of a long message", x.written(i), model.written(i));
                }
                due("pointers of a long message", x.count(2), model.count(2));
            }
        }
    }

    private static void manyLabels() {
        WireMessages x = new WireMessages();
        byte[] most = all(labels("a.".repeat(127)), ROOT);
        byte[] other = all(label("b"), labels("a.".repeat(126)), ROOT);
        ask(x, most, 1, 1);
        ask(x, other, 1, 1);
        ask(x, most, 1, 1);
        writeDue("127 labels", x, 512, 2, head(0, 0, 3, 0, 0, 0), asked(most, 1, 1),
                asked(all(label("b"), pointer(14)), 1, 1), asked(pointer(12), 1, 1));
        due("127 labels: order", x.order(0, 0, 0, 1), -1);
        due("127 labels: same", x.same(0, 0, 0, 2) ? 1 : 0, 1);
    }

    private static WireMessages owning(String... names) {
        WireMessages x = new WireMessages();
        for (String name : names) {
            add(x, 1, name(name), 1, FOUR);
        }
        return x;
    }

    /** The records of {@link #owning} are written with these as their names. */
    private static void ownersDue(WireMessages x, int pointers, byte[]... names) {
        byte[] want = head(0, 0, 0, names.length, 0, 0);
        for (byte[] name : names) {
            want = all(want, a(name));
        }
        writeDue("owners", x, 65_535, pointers, want);
    }

    private static void wholeButForAnEnd() {
        by("A name is written whole but for its longest end (at least one label)");
        ownersDue(owning("", ""), 0, ROOT, ROOT);
        ownersDue(owning("a", "b", ""), 0, name("a"), name("b"), ROOT);
        ownersDue(owning("a", "a"), 1, name("a"), pointer(12));
        ownersDue(owning("a", "b.a"), 1, name("a"), all(label("b"), pointer(12)));
        ownersDue(owning("a.b", "b", "a"), 1, name("a.b"), pointer(14), name("a"));
    }

    private static void longestEnd() {
        by(".. its longest end that stands already in the MESSAGE");
        byte[] second = all(label("b"), pointer(12));
        byte[] third = all(label("a"), pointer(29));
        ownersDue(owning("c", "b.c", "a.b.c", "a.b.c", "z.b.c", "z.c"), 5, name("c"), second, third, pointer(29 + 18),
                all(label("z"), pointer(29)), all(label("z"), pointer(12)));
        WireMessages x = new WireMessages();
        add(x, 1, nameOf(255, 'n'), 1, FOUR);
        add(x, 1, nameOf(255, 'n'), 1, FOUR);
        writeDue("the longest name", x, 65_535, 1, head(0, 0, 0, 2, 0, 0), a(nameOf(255, 'n')), a(pointer(12)));
    }

    private static void letterCase() {
        by(".. byte for byte");
        ownersDue(owning("a.b", "A.b", "a.B", "a.b"), 2, name("a.b"), all(label("A"), pointer(14)), name("a.B"),
                pointer(12));
        ownersDue(owning("Z", "z", "Z", "z"), 2, name("Z"), name("z"), pointer(12), pointer(29));
    }

    /** The mark of bebzfjf in the table of ends is 0, so that a and a.bebzfjf have the same one. */
    private static void endsThatGoOn() {
        by(".. byte for byte: also the 0 at the end");
        ownersDue(owning("a.bebzfjf", "a", "a.bebzfjf", "a", "bebzfjf"), 3, name("a.bebzfjf"), name("a"), pointer(12),
                pointer(37), pointer(14));
        ownersDue(owning("a", "a.bebzfjf", "a", "a.bebzfjf"), 2, name("a"), name("a.bebzfjf"), pointer(12),
                pointer(29));
    }

    private static void endsOfNamesAlone() {
        by(".. as the end of a name that was written there");
        WireMessages x = new WireMessages();
        // A label whose bytes are a whole name; a name of which the first one holds only the beginning.
        add(x, 1, bytes(4, 1, 'y', 0, 'x', 0), 1, FOUR);
        add(x, 1, name("y"), 1, FOUR);
        add(x, 1, name("y.z"), 1, FOUR);
        add(x, 1, name("y"), 1, FOUR);
        ownersDue(x, 1, bytes(4, 1, 'y', 0, 'x', 0), name("y"), name("y.z"), pointer(12 + 20));
        // Both the header and the data of another sort hold these bytes, too.
        WireMessages y = new WireMessages();
        y.begin(0x0161, 0);
        add(y, 1, ROOT, 99, name("a"));
        add(y, 1, name("a"), 99, bytes());
        writeDue("bytes of no name", y, 512, 0, head(0x0161, 0, 0, 2, 0, 0), entry(ROOT, 99, 1, 60, name("a")),
                entry(name("a"), 99, 1, 60, bytes()));
    }

    private static void labelsBeforePointers() {
        by("(in a name that was written with a POINTER, the labels before it count)");
        ownersDue(owning("c", "a.b.c", "b.c", "a.b.c", "x.a.b.c"), 4, name("c"), all(labels("a.b"), pointer(12)),
                pointer(31), pointer(29), all(label("x"), pointer(29)));
    }

    private static void firstPlace() {
        by("a POINTER to the first such place");
        ownersDue(owning("a.b", "a.b", "a.b", "b", "b"), 4, name("a.b"), pointer(12), pointer(12), pointer(14),
                pointer(14));
    }

    private static void typesThatShare() {
        by("Names in data of 33 and others are written whole and never pointed at; .. 2, 5, 6, 12 and 15 are shared");
        for (int type : new int[] {2, 5, 6, 12, 15, 16, 33, 41, 99}) {
            boolean shares = type < 16;
            byte[] before = filled(type == 15 ? 2 : type == 33 ? 6 : 0, 7);
            byte[] behind = type == 6 ? all(ROOT, filled(20, 7)) : bytes();
            byte[] data = all(before, name("d.q"), behind);
            WireMessages x = new WireMessages();
            ask(x, name("q"), 1, 1);
            add(x, 1, ROOT, type, data);
            add(x, 1, name("d.q"), 1, FOUR);
            int place = 12 + 7 + 11 + before.length;
            writeDue("type " + type, x, 512, shares ? 2 : 1, head(0, 0, 1, 2, 0, 0), asked(name("q"), 1, 1),
                    entry(ROOT, type, 1, 60, shares ? all(before, label("d"), pointer(12), behind) : data),
                    a(shares ? pointer(place) : all(label("d"), pointer(12))));
        }
        WireMessages y = new WireMessages();
        add(y, 1, ROOT, 6, all(name("a.b"), name("c.a.b"), filled(20, 7)));
        writeDue("within data", y, 512, 1, head(0, 0, 0, 1, 0, 0),
                entry(ROOT, 6, 1, 60, all(name("a.b"), label("c"), pointer(23), filled(20, 7))));
    }

    private static void highestPlace() {
        by(".. at a place below 16,384");
        for (int place = 16_376; place <= 16_386; place++) {
            WireMessages x = new WireMessages();
            lay(x, wide(58, place - wideLength(58, 0)));
            due("wide", x.read(), 0);
            for (String name : new String[] {"edge.one", "edge.one", "x.one", "one", "y.edge.one"}) {
                add(x, 1, name(name), 1, FOUR);
            }
            byte[] edge = place < 16_384 ? pointer(place) : name("edge.one");
            byte[] one = place + 5 < 16_384 ? pointer(place + 5) : name("one");
            byte[] want = all(a(name("edge.one")), a(edge), a(all(label("x"), one)), a(one), a(all(label("y"), edge)));
            due("at " + place, x.write(65_535), place + want.length);
            for (int i = 0; i < want.length; i++) {
                due("at " + place + ": byte " + i, x.written(place + i), want[i] & 255);
            }
            due("pointers at " + place, x.count(2), (place < 16_384 ? 2 : 0) + (place + 5 < 16_384 ? 2 : 0));
        }
    }

    private static int gather(WireMessages x, int section, byte[] name) {
        return section == 0 ? ask(x, name, 1, 1) : add(x, section, name, 99, bytes());
    }

    /** What {@link #gather} has gathered, as it is written. */
    private static byte[] gatheredOne(int section, byte[] name) {
        return section == 0 ? asked(name, 1, 1) : entry(name, 99, 1, 60, bytes());
    }

    private static byte[] headOf(int flags, int... counts) {
        return head(0, flags, counts[0], counts[1], counts[2], counts[3]);
    }

    private static void limitOfEach() {
        by("A question or RECORD that makes the MESSAGE longer than the limit is left out");
        for (int section = 0; section <= 3; section++) {
            int[] counts = new int[4];
            WireMessages x = new WireMessages();
            gather(x, section, name("a"));
            gather(x, section, name("b"));
            byte[] first = gatheredOne(section, name("a"));
            byte[] second = gatheredOne(section, name("b"));
            int flags = section == 3 ? 0 : 512;
            int length = 12 + first.length + second.length;
            counts[section] = 2;
            writeDue("just as long", x, length, 0, headOf(0, counts), first, second);
            writeDue("not as long", x, length + 1, 0, headOf(0, counts), first, second);
            counts[section] = 1;
            writeDue("one byte longer", x, length - 1, 0, headOf(flags, counts), first);
            writeDue("the first just as long", x, 12 + first.length, 0, headOf(flags, counts), first);
            counts[section] = 0;
            writeDue("the first one byte longer", x, 12 + first.length - 1, 0, headOf(flags, counts));
        }
    }

    private static void nothingBehind() {
        by("in SECTIONS 0 to 2 then nothing comes behind it (but type 41 in SECTION 3), and the flag TC (512) is set");
        for (int section = 0; section <= 2; section++) {
            WireMessages x = new WireMessages();
            x.begin(0, 0xFDFF);
            gather(x, section, ROOT);
            gather(x, section, nameOf(200, 'x'));
            for (int later = section; later <= 3; later++) {
                gather(x, later, ROOT);
            }
            add(x, 3, ROOT, 41, bytes(8));
            gather(x, 3, ROOT);
            int[] counts = new int[4];
            counts[section] = 1;
            counts[3] = 1;
            byte[] first = gatheredOne(section, ROOT);
            byte[] kept = entry(ROOT, 41, 1, 60, bytes(8));
            int lengthOfNext = gatheredOne(section, nameOf(200, 'x')).length;
            int limit = 12 + first.length + lengthOfNext + kept.length;
            writeDue("behind one in " + section, x, limit - 1, 0, headOf(0xFFFF, counts), first, kept);
            counts[section] = 2;
            byte[] two = all(first, gatheredOne(section, nameOf(200, 'x')));
            writeDue("behind two in " + section, x, limit, 0, headOf(0xFFFF, counts), two, kept);
        }
    }

    private static void onlyItLeftOut() {
        by("in SECTION 3 only it is left out");
        WireMessages x = new WireMessages();
        x.begin(0, 0xFDFF);
        for (int k = 0; k < 3; k++) {
            gather(x, 3, nameOf(100, 'x'));
            gather(x, 3, ROOT);
        }
        byte[] small = gatheredOne(3, ROOT);
        writeDue("three of them", x, 12 + 109, 0, headOf(0xFDFF, 0, 0, 0, 3), small, small, small);
        byte[] large = gatheredOne(3, nameOf(100, 'x'));
        byte[] again = gatheredOne(3, pointer(12));
        writeDue("none of them", x, 12 + 110 + 12 + 12 + 33, 2, headOf(0xFDFF, 0, 0, 0, 6), large, small, again, small,
                again, small);
        writeDue("the last", x, 12 + 110 + 12 + 12 + 32, 2, headOf(0xFDFF, 0, 0, 0, 5), large, small, again, small,
                again);
    }

    private static void onlyCutsSetTheFlag() {
        by("the flag TC (512) is set");
        for (int flags : new int[] {0, 512, 0xFDFF, 0xFFFF}) {
            WireMessages x = new WireMessages();
            x.begin(0, flags);
            gather(x, 1, ROOT);
            gather(x, 3, ROOT);
            byte[] one = gatheredOne(1, ROOT);
            writeDue("nothing left out", x, 34, 0, headOf(flags, 0, 1, 0, 1), one, one);
            writeDue("an additional left out", x, 33, 0, headOf(flags, 0, 1, 0, 0), one);
            writeDue("an answer left out", x, 22, 0, headOf(flags | 512, 0, 0, 0, 0));
            due("the flags stay", x.header(1), flags);
            writeDue("nothing left out again", x, 34, 0, headOf(flags, 0, 1, 0, 1), one, one);
        }
    }

    private static void countedFromTheBeginning() {
        by("the 11 bytes and the data of all of those that are still to come count for the limit from the beginning on");
        byte[] early = entry(ROOT, 41, 1, 60, bytes());
        byte[] late = entry(ROOT, 41, 1, 60, bytes(1, 2, 3));
        for (int section = 0; section <= 3; section++) {
            WireMessages x = new WireMessages();
            add(x, 3, ROOT, 41, bytes());
            gather(x, section, ROOT);
            add(x, 3, ROOT, 41, bytes(1, 2, 3));
            byte[] one = gatheredOne(section, ROOT);
            int[] counts = {0, 0, 0, 2};
            int length = 12 + 11 + 14 + one.length;
            int flags = section == 3 ? 0 : 512;
            writeDue("left out of " + section, x, length - 1, 0, headOf(flags, counts), early, late);
            writeDue("these alone", x, 12 + 11 + 14, 0, headOf(flags, counts), early, late);
            dueThrow("less", UnsupportedOperationException.class, () -> x.write(12 + 11 + 14 - 1));
            counts[section]++;
            byte[] want = section == 3 ? all(early, one, late) : all(one, early, late);
            writeDue("in " + section, x, length, 0, headOf(0, counts), want);
        }
        WireMessages y = new WireMessages();
        add(y, 1, ROOT, 41, bytes(1));
        add(y, 2, ROOT, 41, bytes(1));
        by("Type 41 in SECTION 3 is never left out: in others it is");
        dueBytes("in 2 and 1", all(written(y, 35), written(y, 23), written(y, 36)),
                all(head(0, 512, 0, 1, 0, 0), entry(ROOT, 41, 1, 60, bytes(1)), head(0, 512, 0, 0, 0, 0),
                        head(0, 0, 0, 1, 1, 0), entry(ROOT, 41, 1, 60, bytes(1)), entry(ROOT, 41, 1, 60, bytes(1))));
    }

    private static byte[] written(WireMessages x, int limit) {
        x.write(limit);
        return message(x);
    }

    private static void noNamesLeftBehind() {
        by("What is left out leaves no names behind");
        byte[] first = a(name("b"));
        byte[] left = entry(all(label("o"), pointer(12)), 6, 1, 60,
                all(label("d"), pointer(12), label("e"), pointer(29), filled(20, 7)));
        String[] names = {"o.b", "d.b", "e.o.b"};
        int[] places = {29, 43, 47};
        for (int k = 0; k < 3; k++) {
            WireMessages x = new WireMessages();
            add(x, 1, name("b"), 1, FOUR);
            add(x, 3, name("o.b"), 6, all(name("d.b"), name("e.o.b"), filled(20, 7)));
            add(x, 3, name(names[k]), 99, bytes());
            byte[] alone = gatheredOne(3, all(labels(names[k].substring(0, names[k].length() - 1)), pointer(12)));
            byte[] behind = gatheredOne(3, pointer(places[k]));
            int length = 12 + first.length + left.length;
            writeDue("left out", x, length - 1, 1, headOf(0, 0, 1, 0, 1), first, alone);
            writeDue("the second left out", x, length, 3, headOf(0, 0, 1, 0, 1), first, left);
            writeDue("nothing left out", x, length + 12, 4, headOf(0, 0, 1, 0, 2), first, left, behind);
            writeDue("left out again", x, length - 1, 1, headOf(0, 0, 1, 0, 1), first, alone);
        }
    }

    private static void otherNamesStay() {
        by("What is left out leaves no names behind: but what was written between stays");
        WireMessages x = new WireMessages();
        add(x, 3, name("p.q.r"), 99, filled(60, 1));
        add(x, 3, name("q.r"), 99, bytes());
        add(x, 3, ROOT, 99, filled(60, 1));
        add(x, 3, name("r"), 99, bytes());
        add(x, 3, name("p.q.r"), 99, filled(60, 1));
        add(x, 3, name("q.r"), 99, bytes());
        add(x, 3, name("p.q.r"), 99, bytes());
        writeDue("three left out", x, 12 + 15 + 12 + 12 + 14, 3, headOf(0, 0, 0, 0, 4), gatheredOne(3, name("q.r")),
                gatheredOne(3, pointer(14)), gatheredOne(3, pointer(12)), gatheredOne(3, all(label("p"), pointer(12))));
    }

    private static void lowestLimit() {
        by("9: with that limit, 12 .. 65,535");
        for (int section = 0; section <= 3; section++) {
            WireMessages x = new WireMessages();
            gather(x, section, ROOT);
            writeDue("12 in " + section, x, 12, 0, headOf(section == 3 ? 0 : 512, 0, 0, 0, 0));
        }
        writeDue("12 of nothing", new WireMessages(), 12, 0, new byte[12]);
    }

    private static void highestLimit() {
        by("9: with that limit, 12 .. 65,535");
        WireMessages x = new WireMessages();
        lay(x, wide(243, 84));
        due("wide", x.read(), 0);
        due("just as long", x.write(65_535), 65_535);
        due("without pointers", x.count(2), 0);
        due("the last byte", x.written(65_534), 1);
        due("without the flag", x.written(2), 0);
        due("245 records", x.written(7), 245);
        due("one byte less", x.write(65_534), 65_535 - 95);
        due("with the flag", x.written(2), 2);
        due("244 records", x.written(7), 244);
        due("again", x.write(65_535), 65_535);
        add(x, 3, ROOT, 41, bytes());
        due("with one that is never left out", x.write(65_535), 65_535 - 95 + 11);
        due("with the flag again", x.written(2), 2);
        due("1 additional", x.written(11), 1);
    }

    private static void whatIsGatheredStays() {
        by("9: What is gathered is WRITTEN .. (it stays, its flags, too)");
        WireMessages x = new WireMessages();
        x.begin(77, 0x0101);
        ask(x, name("a"), 1, 1);
        add(x, 1, name("a"), 1, FOUR);
        lay(x, bytes(9, 9, 9));
        int[] want = {77, 0x0101, 1, 1, 0, 0};
        for (int limit : new int[] {12, 20, 512}) {
            x.write(limit);
            for (int what = 0; what <= 5; what++) {
                due("header(" + what + ") after " + limit, x.header(what), want[what]);
            }
            dueBytes("the record", nameAndData(x, 1, 0), all(name("a"), FOUR));
            due("the TAPE", x.count(0), 3);
        }
    }

    private static void againAndAgain() {
        by("9: What is gathered is WRITTEN: each time from the beginning");
        WireMessages x = new WireMessages();
        byte[] most = all(labels("a.".repeat(127)), ROOT);
        ask(x, most, 1, 1);
        ask(x, most, 1, 1);
        for (int k = 0; k < 150; k++) {
            int limit = k % 2 == 0 ? 512 : 12 + 259;
            due("written with " + limit, x.write(limit), 12 + 259 + (k % 2 == 0 ? 6 : 0));
            due("pointers with " + limit, x.count(2), k % 2 == 0 ? 1 : 0);
        }
    }
}
