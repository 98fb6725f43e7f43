/** Promise 1: a new object has no text and no pieces. */
public final class NewObjectTest {
    public static void main(String[] args) {
        Check.run(NewObjectTest.class);
    }

    static void aNewObjectHasNoText() {
        NestedTags x = new NestedTags();
        Check.due("count(3)", x.count(3), 0);
        Check.due("read", x.read(), -3);
        Check.due("place", x.place(), 0);
    }

    static void aNewObjectHasNoPieces() {
        NestedTags x = new NestedTags();
        for (int what : new int[] {0, 1, 2, 4}) {
            Check.due("count(" + what + ")", x.count(what), 0);
        }
        for (int what = 0; what <= 3; what++) {
            Check.due("piece(0, " + what + ")", x.piece(0, what), -1);
        }
    }

    static void aNewObjectHasReadNothing() {
        NestedTags x = new NestedTags();
        Check.due("place", x.place(), -1);
        Check.due("byteOf(0)", x.byteOf(0), -1);
        Check.due("byteOf(499)", x.byteOf(499), -1);
    }

    static void aNewObjectTakesAWholeText() {
        NestedTags x = new NestedTags();
        Check.putText(x, " ".repeat(496) + "<a/>");
        Check.due("read", x.read(), 1);
    }

    static void aNewObjectBehindAnotherIsNew() {
        Check.read("<a b=''>c</d>");
        aNewObjectHasNoText();
        aNewObjectHasNoPieces();
        aNewObjectHasReadNothing();
    }
}
