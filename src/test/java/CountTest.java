/** Promise 7: the counts. */
public final class CountTest {
    /** 150 pieces, with < or & behind it: the next one is one too many. */
    private static final String FULL = "<a>" + "x<b/>".repeat(74) + "x";

    public static void main(String[] args) {
        Check.run(CountTest.class);
    }

    static void allCountsOfOneText() {
        counts("<a b='' c=''><d e=''/><f>g</f></a>", 9, 3, 2, 3);
        counts("<a/>", 1, 1, 1, 0);
        counts("", 0, 0, 0, 0);
    }

    // 0 how many pieces there are

    static void piecesUpToAFault() {
        counts("<a><b/>&foo;<c/>", 2, 2, 2, 0);
        counts("x", 0, 0, 0, 0);
    }

    static void piecesUpTo150() {
        counts(FULL.substring(0, FULL.length() - 1) + "</a>", 150, 75, 2, 0);
        counts(FULL + "</a>", 150, 75, 2, 0);
    }

    // 1 elements whose name was read (without fault 15)

    static void elementsWithoutAName() {
        counts("<", 0, 0, 0, 0);
        counts("<a><", 1, 1, 1, 0);
        counts("<9", 0, 0, 0, 0);
    }

    static void elementsWhoseNameEndsWithTheText() {
        counts("<a", 0, 1, 0, 0);
        counts("<a><b", 1, 2, 1, 0);
    }

    static void elementsWhoseNameEndsBeforeAFault() {
        counts("<a!", 0, 1, 0, 0);
        counts("<a\u0000", 0, 1, 0, 0);
        counts("<a b='' b=''", 1, 1, 0, 1);
    }

    static void elementsWithFault15DoNotCount() {
        counts("<a>".repeat(20) + "<b/>", 20, 20, 20, 0);
        counts("<a>".repeat(20) + "<b", 20, 20, 20, 0);
    }

    static void elementsWhoseTagIsOnePieceTooManyCount() {
        counts(FULL + "<c>", 150, 76, 2, 0);
        counts(FULL + "<c/>", 150, 76, 2, 0);
    }

    static void aSecondElementBehindTheFirstIsNone() {
        counts("<a/><b/>", 1, 1, 1, 0);
    }

    static void endTagsAreNoElements() {
        counts("<a></a>", 2, 1, 1, 0);
        counts("<a></b>", 1, 1, 1, 0);
    }

    static void asManyElementsAsThereAreWithoutAnyDepth() {
        counts("<r>" + "<a/>".repeat(120) + "</r>", 122, 121, 2, 0);
    }

    // 2 the most that were open at once (of those whose tag is a piece; an EMPTY one counts)

    static void theMostThatWereOpenAtOnce() {
        counts("<a></a>", 2, 1, 1, 0);
        counts("<a><b></b><c></c></a>", 6, 3, 2, 0);
        counts("<a><b><c></c></b><d></d></a>", 8, 4, 3, 0);
        counts("<a><b><c/></b><d/></a>", 6, 4, 3, 0);
    }

    static void anEmptyElementCountsAsOpen() {
        counts("<a/>", 1, 1, 1, 0);
        counts("<a><b/></a>", 3, 2, 2, 0);
        counts("<a><b><c/></b></a>", 5, 3, 3, 0);
    }

    static void theMostIs20() {
        counts("<a>".repeat(20) + "</a>".repeat(20), 40, 20, 20, 0);
        counts("<a>".repeat(19) + "<b/><c", 20, 21, 20, 0);
        counts("<a>".repeat(20) + "<b>", 20, 20, 20, 0);
    }

    static void elementsWhoseTagIsNoPieceAreNotOpen() {
        counts("<a", 0, 1, 0, 0);
        counts("<a b=''", 1, 1, 0, 1);
        counts("<a><b><c", 2, 3, 2, 0);
        counts("<a><b/", 1, 2, 1, 0);
    }

    static void elementsWhoseTagIsOnePieceTooManyAreNotOpen() {
        counts("<a>" + "&lt;x".repeat(74) + "&lt;<b/>", 150, 2, 1, 0);
        counts("<a>" + "&lt;x".repeat(74) + "&lt;<b>", 150, 2, 1, 0);
    }

    // 3 bytes of the text that was not read yet

    static void bytesThatWereNotReadYet() {
        NestedTags x = new NestedTags();
        Check.due("count(3) of a new object", x.count(3), 0);
        Check.putText(x, "<a b='c'/>");
        Check.due("count(3)", x.count(3), 10);
        Check.due("put of one more", x.put(' ', 1), true);
        Check.due("count(3) behind it", x.count(3), 11);
        Check.due("put of nine", x.put(' ', 9), false);
        Check.due("count(3) behind a refused put", x.count(3), 11);
        x.read();
        Check.due("count(3) behind the reading", x.count(3), 0);
        Check.putText(x, "<z");
        Check.due("count(3) of the next text", x.count(3), 2);
    }

    static void bytesUpTo500() {
        NestedTags x = new NestedTags();
        Check.putText(x, "x".repeat(500));
        Check.due("count(3)", x.count(3), 500);
    }

    // 4 attributes that are pieces

    static void attributesOfAllTags() {
        counts("<a b='' c=''><a b=''/></a>", 6, 2, 2, 3);
    }

    static void attributesThatAreNoPieces() {
        counts("<a b='' c='", 1, 1, 0, 1);
        counts("<a b='' b=''", 1, 1, 0, 1);
        counts("<a b='<'", 0, 1, 0, 0);
        counts("<a b", 0, 1, 0, 0);
        counts("<a a='' b='' c='' d='' e='' f='' g='' h='' i=''", 8, 1, 0, 8);
    }

    static void anAttributeThatIsOnePieceTooMany() {
        counts(FULL + "<b c=''/>", 150, 76, 2, 0);
        counts("<a b=''>" + "x<b/>".repeat(74) + "<c d=''", 150, 76, 2, 1);
    }

    // -1 for another what.

    static void anotherWhat() {
        NestedTags x = Check.read("<a/>");
        Check.putText(x, "<b");
        for (int what : new int[] {5, 6, -1, -5, 256, Integer.MAX_VALUE, Integer.MIN_VALUE}) {
            Check.due("count(" + what + ")", x.count(what), -1);
        }
    }

    static void theCountsAreThoseOfTheLastReading() {
        NestedTags x = new NestedTags();
        Check.putText(x, "<a b=''/>");
        int[] before = {0, 0, 0, 9, 0};
        int[] read = {2, 1, 1, 0, 1};
        int[] again = {2, 1, 1, 2, 1};
        int[] next = {0, 1, 0, 0, 0};
        due(x, "before the reading", before);
        x.read();
        due(x, "behind the reading", read);
        Check.putText(x, "<z");
        due(x, "before the next reading", again);
        x.read();
        due(x, "behind the next reading", next);
        x.read();
        due(x, "behind a reading of no text", new int[5]);
    }

    private static void counts(String text, int pieces, int elements, int mostOpen, int attributes) {
        due(Check.read(text), "of " + Check.shown(text), new int[] {pieces, elements, mostOpen, 0, attributes});
    }

    private static void due(NestedTags x, String of, int[] want) {
        for (int what = 0; what < want.length; what++) {
            Check.due("count(" + what + ") " + of, x.count(what), want[what]);
        }
    }
}
