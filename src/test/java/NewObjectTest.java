/** Promise 1: a new object has no text and no pieces. */
public final class NewObjectTest {
    public static void main(String[] args) {
        NestedTags x = new NestedTags();
        Check.due("place", x.place(), -1);
        Check.due("byteOf(0)", x.byteOf(0), -1);
        for (int what = 0; what <= 3; what++) {
            Check.due("piece(0, " + what + ")", x.piece(0, what), -1);
        }
        for (int what = 0; what <= 4; what++) {
            Check.due("count(" + what + ")", x.count(what), 0);
        }
        Check.due("read", x.read(), -3);
        Check.due("place", x.place(), 0);

        objectsShareNothing();
        Check.end();
    }

    private static void objectsShareNothing() {
        NestedTags first = Check.read("<a b=''>c</a>");
        NestedTags second = new NestedTags();
        Check.due("count(0) of a second object", second.count(0), 0);
        Check.putText(second, "<z/>");
        second.read();
        Check.due("count(0) of the first object", first.count(0), 4);
        Check.due("byteOf(1) of the first object", first.byteOf(1), 'a');
    }
}
