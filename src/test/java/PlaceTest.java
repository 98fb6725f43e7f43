/** Promise 4: the place of the fault of the last text that was read. */
public final class PlaceTest {
    public static void main(String[] args) {
        NestedTags x = new NestedTags();
        Check.due("place before a reading", x.place(), -1);
        next(x, "<a>&foo;</a>", 3);
        next(x, "<a/>", -1);
        next(x, "", 0);
        next(x, "<a", 2);
        Check.putText(x, "<a/>");
        Check.due("place before the next reading", x.place(), 2);
        x.read();
        Check.due("place behind the next reading", x.place(), -1);
        next(x, "x", 0);
        next(x, " ".repeat(500), 500);
        Check.end();
    }

    private static void next(NestedTags x, String text, int place) {
        Check.putText(x, text);
        x.read();
        Check.due("place in " + Check.shown(text), x.place(), place);
        Check.due("place asked again", x.place(), place);
    }
}
