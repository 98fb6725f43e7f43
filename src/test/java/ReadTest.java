/** Promise 3: read. What the productions and the faults ask of it stands in the tests of the Terms. */
public final class ReadTest {
    public static void main(String[] args) {
        Check.run(ReadTest.class);
    }

    // The text is read, and has no bytes then (those that were read are kept)

    static void theTextHasNoBytesBehindAReading() {
        NestedTags x = new NestedTags();
        Check.putText(x, "<a/>");
        x.read();
        Check.due("count(3)", x.count(3), 0);
    }

    static void theTextHasNoBytesBehindAFault() {
        NestedTags x = new NestedTags();
        Check.putText(x, "<a></b>and more");
        x.read();
        Check.due("count(3)", x.count(3), 0);
        Check.due("read again", x.read(), -3);
        Check.due("place", x.place(), 0);
    }

    static void theBytesThatWereReadAreKept() {
        NestedTags x = Check.read("<a/>");
        Check.due("byteOf(0)", x.byteOf(0), '<');
        Check.due("byteOf(3)", x.byteOf(3), '>');
    }

    static void theBytesBehindAFaultAreKept() {
        NestedTags x = Check.read("x<a/>");
        Check.due("byteOf(0)", x.byteOf(0), 'x');
        Check.due("byteOf(4)", x.byteOf(4), '>');
        Check.due("byteOf(5)", x.byteOf(5), -1);
    }

    static void aTextDoesNotGoOnInTheNext() {
        NestedTags x = new NestedTags();
        next(x, "<a>", -3, 3);
        next(x, "</a>", -3, 1);
        next(x, "<a b='", -3, 6);
        next(x, "<c b=''/>", 2, -1);
        next(x, "<a ", -3, 3);
        next(x, "/>", -3, 0);
        next(x, "<a b=''", -3, 7);
        next(x, "<a b=''/>", 2, -1);
        next(x, "<!--", -3, 4);
        next(x, "--><a/>", -3, 0);
    }

    static void theLimitsBeginAnewWithEachText() {
        NestedTags x = new NestedTags();
        for (int i = 0; i < 3; i++) {
            next(x, "<a>".repeat(20), -3, 60);
            next(x, "<a a='' b='' c='' d='' e='' f='' g='' h=''", -3, 42);
        }
        NestedTags y = new NestedTags();
        for (int i = 0; i < 3; i++) {
            next(y, "<a>" + "x<b/>".repeat(74) + "</a>", 150, -1);
        }
    }

    static void noTextIsReadToo() {
        NestedTags x = Check.read("<a b=''/>");
        next(x, "", -3, 0);
        Check.due("count(0)", x.count(0), 0);
        Check.due("byteOf(0)", x.byteOf(0), -1);
        next(x, "", -3, 0);
    }

    // how many pieces it has

    static void theAnswerIsTheNumberOfPieces() {
        Check.whole("<a/>", 1);
        Check.whole("<a></a>", 2);
        Check.whole("<!-- x --><a b=\"1\" c=''>t&#65;<d/><![CDATA[<]]>]<?p q?></a> \n<?z?>", 12);
    }

    static void theAnswerMayBe150() {
        Check.whole("<a>" + "x<b/>".repeat(74) + "</a>", 150);
    }

    static void theAnswerIsNot151() {
        Check.fault("<a>" + "x<b/>".repeat(74) + "x</a>", 15, 374, 150);
    }

    // or -1 - the fault

    static void theAnswerIsMinus1MinusTheFault() {
        answer("<a", -3);
        answer("<a></b>", -4);
        answer("<a b='' b=''/>", -5);
        answer("<a>&foo;</a>", -6);
        answer("<a>&#0;</a>", -9);
        answer("<?xml?><a/>", -12);
        answer("<a>".repeat(21), -16);
    }

    // then the pieces up to it are there.

    static void thePiecesUpToAFaultAreThere() {
        Check.pieces("<a b='' c='", "3:3-7@0");
        Check.pieces("<a b='' b=''", "3:3-7@0");
        Check.pieces("<a>&foo;", "0:0-3@0");
        Check.pieces("<a>x&foo;", "0:0-3@0 4:3-4@1");
        Check.pieces("<a></a", "0:0-3@0");
        Check.pieces("<a></b>", "0:0-3@0");
        Check.pieces("<a/><!---->x", "2:0-4@0 7:4-11@0");
        Check.pieces("<a/> <?p?><?xml?>", "2:0-4@0 8:5-10@0");
    }

    static void noPiecesMayBeUpToAFault() {
        Check.pieces("<a/", "");
        Check.pieces("x<a/>", "");
        Check.pieces("<?xml?><a/>", "");
    }

    static void noPiecesBehindAFaultAreThere() {
        Check.pieces("<a>&foo;<b/><c/></a>", "0:0-3@0");
        Check.pieces("<a/>x<!---->", "2:0-4@0");
    }

    private static void answer(String text, int want) {
        NestedTags x = new NestedTags();
        Check.putText(x, text);
        Check.due("read of " + Check.shown(text), x.read(), want);
    }

    private static void next(NestedTags x, String text, int answer, int place) {
        Check.putText(x, text);
        Check.due("read of " + Check.shown(text), x.read(), answer);
        Check.due("place in " + Check.shown(text), x.place(), place);
    }
}
