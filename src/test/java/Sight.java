/** What can be seen of an object. It is the same before and after a call that changes nothing. */
final class Sight {
    private static final int FRONT = 30;

    private Sight() {
    }

    /** All but the tape's bytes; of what is long, the front and the last, so that the calls stay few. */
    static String of(WireMessages x) {
        StringBuilder sight = new StringBuilder("fault at ").append(x.faultAt()).append(", counts");
        for (int what = 0; what <= 3; what++) {
            sight.append(' ').append(x.count(what));
        }
        sight.append(", header");
        for (int what = 0; what <= 5; what++) {
            sight.append(' ').append(x.header(what));
        }
        for (int section = 0; section <= 3; section++) {
            int size = x.header(2 + section);
            for (int k = 0; k < size; k = k < 2 || k == size - 1 ? k + 1 : size - 1) {
                appendOne(sight, x, section, k);
            }
        }
        sight.append(", message");
        int length = x.count(1);
        for (int i = 0; i < length; i = i < FRONT || i == length - 1 ? i + 1 : length - 1) {
            sight.append(' ').append(x.written(i));
        }
        return sight.toString();
    }

    private static void appendOne(StringBuilder sight, WireMessages x, int section, int k) {
        sight.append(", ").append(section).append('/').append(k).append(" told");
        int length = x.told(section, k, 2) + (section == 0 ? 0 : x.told(section, k, 3));
        for (int what = 0; what < (section == 0 ? 3 : 5); what++) {
            sight.append(' ').append(x.told(section, k, what));
        }
        sight.append(" bytes");
        for (int i = 0; i < Math.min(length, 10); i++) {
            sight.append(' ').append(x.byteOf(section, k, i));
        }
    }

    /** The tape's bytes, as far as a record or a reading shows them; takes the tape, and what is gathered goes. */
    static String tape(WireMessages x) {
        String sight = "tape of " + x.count(0) + " ";
        x.begin(0, 0);
        try {
            x.record(1, 99, 0, 0);
            return sight + of(x);
        } catch (IllegalArgumentException e) {
            return sight + "read as " + x.read() + " " + of(x);
        }
    }
}
