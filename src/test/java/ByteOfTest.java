/** Promise 6: byteOf tells the bytes of what was read last. */
public final class ByteOfTest {
    public static void main(String[] args) {
        NestedTags x = new NestedTags();
        Check.putText(x, "<a>\u007f\u0000\u0080\u00ff");
        Check.due("byteOf(0) before the reading", x.byteOf(0), -1);
        x.read();
        int[] bytes = {'<', 'a', '>', 127, 0, 128, 255};
        for (int i = 0; i < bytes.length; i++) {
            Check.due("byteOf(" + i + ")", x.byteOf(i), bytes[i]);
        }
        for (int i : new int[] {7, 8, 499, 500, -1, -2, Integer.MAX_VALUE, Integer.MIN_VALUE}) {
            Check.due("byteOf(" + i + ")", x.byteOf(i), -1);
        }

        Check.putText(x, "<b");
        Check.due("byteOf(1) while the next text comes", x.byteOf(1), 'a');
        x.read();
        Check.due("byteOf(1) of the next text", x.byteOf(1), 'b');
        Check.due("byteOf(2) of the next text", x.byteOf(2), -1);
        x.read();
        Check.due("byteOf(0) of an empty text", x.byteOf(0), -1);
        Check.end();
    }
}
