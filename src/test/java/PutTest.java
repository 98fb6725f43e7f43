/** Promise 2: put, and what it refuses. */
public final class PutTest {
    private static final long EIGHT_BLANKS = 0x2020202020202020L;

    public static void main(String[] args) {
        Check.run(PutTest.class);
    }

    // The lowest n bytes of v, the highest of them first, come behind the text: true

    static void theHighestByteComesFirst() {
        NestedTags x = new NestedTags();
        Check.due("put of eight", x.put(0x0102030405060708L, 8), true);
        bytes(x, 1, 2, 3, 4, 5, 6, 7, 8);
    }

    static void bytesComeBehindTheText() {
        NestedTags x = new NestedTags();
        Check.due("put of eight", x.put(0x0102030405060708L, 8), true);
        Check.due("put of one", x.put(0x09L, 1), true);
        Check.due("put of three", x.put(0x0A0B0CL, 3), true);
        bytes(x, 1, 2, 3, 4, 5, 6, 7, 8, 9, 10, 11, 12);
    }

    static void onlyTheLowestBytesCount() {
        for (int n = 1; n <= 8; n++) {
            NestedTags x = new NestedTags();
            Check.due("put(0xF1F2..F8, " + n + ")", x.put(0xF1F2F3F4F5F6F7F8L, n), true);
            Check.due("count(3) behind it", x.count(3), n);
            int[] want = new int[n];
            for (int i = 0; i < n; i++) {
                want[i] = 0xF8 - (n - 1) + i;
            }
            bytes(x, want);
        }
    }

    static void theLeastAndTheGreatestNumber() {
        NestedTags x = new NestedTags();
        Check.due("put of the least", x.put(Long.MIN_VALUE, 8), true);
        Check.due("put of the greatest", x.put(Long.MAX_VALUE, 8), true);
        Check.due("put of -1", x.put(-1L, 2), true);
        Check.due("put of 0", x.put(0L, 2), true);
        bytes(x, 128, 0, 0, 0, 0, 0, 0, 0, 127, 255, 255, 255, 255, 255, 255, 255, 255, 255, 0, 0);
    }

    static void everyByteIsKept() {
        for (int from = 0; from < 256; from += 128) {
            NestedTags x = new NestedTags();
            int[] want = new int[128];
            for (int i = 0; i < 128; i++) {
                want[i] = from + i;
                Check.due("put of byte " + want[i], x.put(want[i], 1), true);
            }
            bytes(x, want);
        }
    }

    // false if n is not 1 .. 8

    static void theLeastAndTheMostBytes() {
        NestedTags x = new NestedTags();
        Check.due("put of one", x.put(' ', 1), true);
        Check.due("put of eight", x.put(EIGHT_BLANKS, 8), true);
        Check.due("count(3)", x.count(3), 9);
    }

    static void noBytesAreRefused() {
        refused(0);
    }

    static void nineBytesAreRefused() {
        refused(9);
    }

    static void fewerThanNoBytesAreRefused() {
        for (int n : new int[] {-1, -7, -8, -255, Integer.MIN_VALUE, Integer.MIN_VALUE + 1}) {
            refused(n);
        }
    }

    static void farTooManyBytesAreRefused() {
        for (int n : new int[] {10, 16, 64, 256, 257, 500, 501, 65537, Integer.MAX_VALUE}) {
            refused(n);
        }
    }

    // .. or there would be more than 500.

    static void theTextMayBeFilledToItsLimit() {
        for (int last = 1; last <= 8; last++) {
            NestedTags x = filledTo(500 - last);
            Check.due("put of the last " + last, x.put(EIGHT_BLANKS, last), true);
            Check.due("count(3)", x.count(3), 500);
        }
    }

    static void oneByteBeyondTheLimitIsRefused() {
        for (int last = 1; last <= 8; last++) {
            NestedTags x = filledTo(501 - last);
            Check.due("put of " + last + " behind " + (501 - last), x.put(EIGHT_BLANKS, last), false);
            Check.due("count(3)", x.count(3), 501 - last);
        }
    }

    static void aFullTextTakesNothing() {
        NestedTags x = filledTo(500);
        for (int n = -1; n <= 9; n++) {
            Check.due("put of " + n, x.put(EIGHT_BLANKS, n), false);
        }
        Check.due("count(3)", x.count(3), 500);
    }

    static void aRefusedPutLeavesNoPartOfIt() {
        NestedTags x = filledTo(496);
        Check.due("put of five", x.put(0x3C612F3E20L, 5), false);
        Check.due("put of four", x.put(0x3C622F3EL, 4), true);
        Check.due("read", x.read(), 1);
        Check.due("byteOf(497)", x.byteOf(497), 'b');
    }

    static void theTextMayBeFilledAgainBehindAReading() {
        NestedTags x = filledTo(500);
        x.read();
        Check.due("count(3) behind the reading", x.count(3), 0);
        Check.putText(x, "<a>" + "y".repeat(493) + "</a>");
        Check.due("put at the limit", x.put(' ', 1), false);
        Check.due("read", x.read(), 3);
    }

    static void putLeavesWhatWasRead() {
        NestedTags x = Check.read("<a></b>");
        Check.putText(x, "<zzzzzzzz/>");
        Check.due("place", x.place(), 5);
        Check.due("count(0)", x.count(0), 1);
        Check.due("byteOf(1)", x.byteOf(1), 'a');
        Check.due("byteOf(7)", x.byteOf(7), -1);
        Check.due("pieces", Check.piecesOf(x), "0:0-3@0");
    }

    private static NestedTags filledTo(int many) {
        NestedTags x = new NestedTags();
        Check.putText(x, " ".repeat(many));
        return x;
    }

    private static void refused(int n) {
        NestedTags x = new NestedTags();
        Check.putText(x, "<a/>");
        Check.due("put(32, " + n + ")", x.put(' ', n), false);
        Check.due("count(3)", x.count(3), 4);
        Check.due("read", x.read(), 1);
        Check.due("byteOf(4)", x.byteOf(4), -1);
    }

    private static void bytes(NestedTags x, int... want) {
        x.read();
        for (int i = 0; i < want.length; i++) {
            Check.due("byteOf(" + i + ")", x.byteOf(i), want[i]);
        }
        Check.due("byteOf(" + want.length + ")", x.byteOf(want.length), -1);
    }
}
