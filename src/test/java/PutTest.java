/** Promise 2: put, and what it refuses. */
public final class PutTest {
    public static void main(String[] args) {
        bytesGoHighestFirst();
        onlyTheLowestBytesCount();
        wrongLengthsAreRefused();
        theTextHasALimit();
        putLeavesWhatWasRead();
        Check.end();
    }

    private static void bytesGoHighestFirst() {
        NestedTags x = new NestedTags();
        Check.due("put of eight", x.put(0x0102030405060708L, 8), true);
        Check.due("put of one", x.put(0x09L, 1), true);
        Check.due("put of three", x.put(0x0A0B0CL, 3), true);
        Check.due("count(3)", x.count(3), 12);
        x.read();
        for (int i = 0; i < 12; i++) {
            Check.due("byteOf(" + i + ")", x.byteOf(i), i + 1);
        }
        Check.due("byteOf(12)", x.byteOf(12), -1);
    }

    private static void onlyTheLowestBytesCount() {
        for (int n = 1; n <= 8; n++) {
            NestedTags x = new NestedTags();
            Check.due("put(0xF1F2..F8, " + n + ")", x.put(0xF1F2F3F4F5F6F7F8L, n), true);
            Check.due("count(3) behind it", x.count(3), n);
            x.read();
            for (int i = 0; i < n; i++) {
                Check.due("byteOf(" + i + ") of " + n, x.byteOf(i), 0xF8 - (n - 1) + i);
            }
        }
    }

    private static void wrongLengthsAreRefused() {
        NestedTags x = Check.read("<a/>");
        Check.putText(x, "<b>");
        for (int n : new int[] {0, 9, -1, -8, 16, 256, 257, Integer.MAX_VALUE, Integer.MIN_VALUE}) {
            Check.due("put(1, " + n + ")", x.put(1L, n), false);
        }
        Check.due("count(3) behind refused calls", x.count(3), 3);
        Check.due("count(0) behind refused calls", x.count(0), 1);
        Check.due("byteOf(1) behind refused calls", x.byteOf(1), 'a');
    }

    private static void theTextHasALimit() {
        NestedTags x = new NestedTags();
        for (int i = 0; i < 62; i++) {
            Check.due("put " + i, x.put(0x2020202020202020L, 8), true);
        }
        Check.due("put beyond 500", x.put(0x2020202020L, 5), false);
        Check.due("put far beyond 500", x.put(0x20L, 8), false);
        Check.due("count(3) before the limit", x.count(3), 496);
        Check.due("put up to 500", x.put(0x3C612F3EL, 4), true);
        Check.due("put at the limit", x.put(0x20L, 1), false);
        Check.due("count(3) at the limit", x.count(3), 500);
        Check.due("read of 500 bytes", x.read(), 1);
        Check.due("the piece's end", x.piece(0, 2), 500);
        Check.due("put behind a reading", x.put(0x20L, 1), true);
        Check.due("count(3) behind a reading", x.count(3), 1);
    }

    private static void putLeavesWhatWasRead() {
        NestedTags x = Check.read("<a></b>");
        Check.putText(x, "<zzzzzzzz/>");
        Check.due("place", x.place(), 5);
        Check.due("count(0)", x.count(0), 1);
        Check.due("byteOf(1)", x.byteOf(1), 'a');
        Check.due("byteOf(7)", x.byteOf(7), -1);
        Check.due("pieces", Check.piecesOf(x), "0:0-3@0");
    }
}
