/** Promise 7: the counts. */
public final class CountTest {
    public static void main(String[] args) {
        counts("<a b='' c=''><d e=''/><f>g</f></a>", 9, 3, 2, 3);
        counts("<a/>", 1, 1, 1, 0);
        counts("", 0, 0, 0, 0);
        elementsCountWithTheirNames();
        mostOpenCountsPieces();
        attributesCountAsPieces();
        bytesNotReadYet();
        otherCounts();
        Check.end();
    }

    private static void counts(String text, int pieces, int elements, int mostOpen, int attributes) {
        NestedTags x = Check.read(text);
        int[] want = {pieces, elements, mostOpen, 0, attributes};
        for (int what = 0; what < want.length; what++) {
            Check.due("count(" + what + ") of " + Check.shown(text), x.count(what), want[what]);
        }
    }

    private static void elementsCountWithTheirNames() {
        counts("<", 0, 0, 0, 0);
        counts("<a", 0, 1, 0, 0);
        counts("<a!", 0, 1, 0, 0);
        counts("<a><b", 1, 2, 1, 0);
        counts("<a/><b/>", 1, 1, 1, 0);
        counts("<a>".repeat(20) + "<b/>", 20, 20, 20, 0);
        counts("<a>".repeat(19) + "<b/><c", 20, 21, 20, 0);
    }

    private static void mostOpenCountsPieces() {
        counts("<a><b/></a>", 3, 2, 2, 0);
        counts("<a><b><c", 2, 3, 2, 0);
        counts("<a><b/", 1, 2, 1, 0);
        counts("<a><b></b><c></c></a>", 6, 3, 2, 0);
        // The tag that would be piece 151 is none.
        counts("<a>" + "x<b/>".repeat(74) + "x<c>", 150, 76, 2, 0);
        counts("<a>" + "x<b/>".repeat(74) + "x<c><d/>", 150, 76, 2, 0);
        counts("<a>" + "&lt;x".repeat(74) + "&lt;<b/>", 150, 2, 1, 0);
    }

    private static void attributesCountAsPieces() {
        counts("<a b='' c='", 1, 1, 0, 1);
        counts("<a b='' b=''", 1, 1, 0, 1);
        counts("<a b='<'", 0, 1, 0, 0);
        // The attribute that would be piece 151 is none.
        counts("<a>" + "x<b/>".repeat(74) + "x<b c=''/>", 150, 76, 2, 0);
    }

    private static void bytesNotReadYet() {
        NestedTags x = new NestedTags();
        Check.putText(x, "<a b='c'/>");
        Check.due("count(3)", x.count(3), 10);
        Check.due("count(0) before the reading", x.count(0), 0);
        Check.due("count(1) before the reading", x.count(1), 0);
        x.read();
        Check.due("count(3) behind the reading", x.count(3), 0);
        Check.putText(x, "<z");
        Check.due("count(3) of the next text", x.count(3), 2);
        Check.due("count(4) of the last text", x.count(4), 1);
        x.read();
        Check.due("count(4) of the next text", x.count(4), 0);
        Check.due("count(2) of the next text", x.count(2), 0);
        Check.due("count(1) of the next text", x.count(1), 1);
    }

    private static void otherCounts() {
        NestedTags x = Check.read("<a/>");
        for (int what : new int[] {5, 6, -1, Integer.MAX_VALUE, Integer.MIN_VALUE}) {
            Check.due("count(" + what + ")", x.count(what), -1);
        }
    }
}
