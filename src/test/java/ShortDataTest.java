import java.util.Arrays;

/** All short rows of some telling bytes as a message's end, with every length of the data: read as the model does. */
public final class ShortDataTest extends Bench {
    /** The root, labels, a bad length byte, a pointer's first byte, and second bytes that lead back or forward. */
    private static final int[] BYTES = {0, 1, 2, 64, 192, 23, 24, 12};
    private static final int MOST = 4;
    private static final int CALLS_AT_MOST = 60;

    private WireMessages x = new WireMessages();
    private Model model = new Model();
    private int calls = 0;

    private ShortDataTest() {
    }

    public static void main(String[] args) {
        for (int type : new int[] {2, 15, 6, 33, 16, 41, 99}) {
            new ShortDataTest().allRows(type);
        }
        finish();
    }

    private void allRows(int type) {
        by("data of type " + type);
        byte[] before = filled(type == 33 ? 5 : type == 15 ? 1 : 0, 0);
        byte[] behind = filled(type == 6 ? 20 : 0, 0);
        for (int length = 0, rows = 1; length <= MOST; length++, rows *= BYTES.length) {
            for (int number = 0; number < rows; number++) {
                byte[] row = row(number, length);
                for (int size = 0; size <= length + 1; size++) {
                    compare(type, before.length + size, all(before, row));
                    compare(type, before.length + size + behind.length, all(before, row, behind));
                }
            }
        }
    }

    private static byte[] row(int number, int length) {
        byte[] row = new byte[length];
        int left = number;
        for (int i = 0; i < length; i++) {
            row[i] = (byte) BYTES[left % BYTES.length];
            left /= BYTES.length;
        }
        return row;
    }

    private void compare(int type, int size, byte[] rest) {
        byte[] row = all(head(0x0141, 0, 0, 1, 0, 0), ROOT, two(type), two(1), four(1), two(size), rest);
        if (calls > 512 - CALLS_AT_MOST) {
            x = new WireMessages();
            model = new Model();
            calls = 0;
        }
        lay(x, row);
        model.lay(row);
        int fault = x.read();
        int place = x.faultAt();
        calls += 8;
        if (fault != model.read() || place != model.faultAt() || x.count(3) != model.count(3)) {
            tell(Arrays.toString(row) + " has fault " + fault + " at " + place + ", due is one at " + model.faultAt());
        } else if (fault == 0) {
            byte[] got = nameAndData(x, 1, 0);
            calls += 2 + got.length;
            dueBytes(Arrays.toString(row), got, model.nameAndData(1, 0));
        }
    }
}
