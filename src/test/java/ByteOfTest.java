/** Promise 6: byteOf tells the bytes of what was read last. */
public final class ByteOfTest {
    public static void main(String[] args) {
        Check.run(ByteOfTest.class);
    }

    static void everyByteFrom0To255() {
        StringBuilder text = new StringBuilder();
        for (int b = 0; b < 256; b++) {
            text.append((char) b);
        }
        NestedTags x = Check.read(text.toString());
        for (int b = 0; b < 256; b++) {
            Check.due("byteOf(" + b + ")", x.byteOf(b), b);
        }
    }

    static void theFirstAndTheLastByte() {
        NestedTags x = Check.read("<a/>");
        Check.due("byteOf(0)", x.byteOf(0), '<');
        Check.due("byteOf(3)", x.byteOf(3), '>');
    }

    static void noByteBeforeTheFirst() {
        NestedTags x = Check.read("<a/>");
        for (int i : new int[] {-1, -2, -500, Integer.MIN_VALUE}) {
            Check.due("byteOf(" + i + ")", x.byteOf(i), -1);
        }
    }

    static void noByteBehindTheLast() {
        NestedTags x = Check.read("<a/>");
        for (int i : new int[] {4, 5, 499, 500, 501, 65536, Integer.MAX_VALUE}) {
            Check.due("byteOf(" + i + ")", x.byteOf(i), -1);
        }
    }

    static void byte499IsTheLastOf500() {
        NestedTags x = Check.read(" ".repeat(499) + "x");
        Check.due("byteOf(499)", x.byteOf(499), 'x');
        Check.due("byteOf(500)", x.byteOf(500), -1);
    }

    static void noByteBeforeAReading() {
        NestedTags x = new NestedTags();
        Check.putText(x, "<a/>");
        Check.due("byteOf(0)", x.byteOf(0), -1);
    }

    static void bytesBehindAFaultToo() {
        NestedTags x = Check.read("<a></b>xyz");
        Check.due("byteOf(9)", x.byteOf(9), 'z');
        Check.due("byteOf(10)", x.byteOf(10), -1);
    }

    static void theNextTextDoesNotCountBeforeItIsRead() {
        NestedTags x = Check.read("<a/>");
        Check.putText(x, "<bcdefgh");
        Check.due("byteOf(1)", x.byteOf(1), 'a');
        Check.due("byteOf(4)", x.byteOf(4), -1);
    }

    static void noByteOfAnEarlierText() {
        NestedTags x = Check.read("<abcdefgh/>");
        Check.putText(x, "<z");
        x.read();
        Check.due("byteOf(1)", x.byteOf(1), 'z');
        Check.due("byteOf(2)", x.byteOf(2), -1);
        Check.putText(x, "<y");
        x.read();
        Check.due("byteOf(1) of the third text", x.byteOf(1), 'y');
        Check.due("byteOf(2) of the third text", x.byteOf(2), -1);
    }

    static void noByteOfATextWithoutBytes() {
        NestedTags x = Check.read("<a/>");
        x.read();
        Check.due("byteOf(0)", x.byteOf(0), -1);
    }
}
