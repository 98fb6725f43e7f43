/** Promise 5: piece. What the pieces are stands in the tests of the Terms. */
public final class PieceTest {
    public static void main(String[] args) {
        Check.run(PieceTest.class);
    }

    static void whatOfAPiece() {
        NestedTags x = Check.read("<a>xyz</a>");
        Check.due("its kind", x.piece(1, 0), 4);
        Check.due("where it begins", x.piece(1, 1), 3);
        Check.due("where it ends", x.piece(1, 2), 6);
        Check.due("its depth", x.piece(1, 3), 1);
    }

    static void anotherWhat() {
        NestedTags x = Check.read("<a>xyz</a>");
        for (int k = 0; k < 3; k++) {
            for (int what : new int[] {4, 5, -1, -4, 256, Integer.MAX_VALUE, Integer.MIN_VALUE}) {
                Check.due("piece(" + k + ", " + what + ")", x.piece(k, what), -1);
            }
        }
    }

    static void theFirstPieceIsPiece0() {
        NestedTags x = Check.read("<!----><a/>");
        Check.due("piece(0, 0)", x.piece(0, 0), 7);
        Check.due("piece(0, 2)", x.piece(0, 2), 7);
    }

    static void theLastPiece() {
        NestedTags x = Check.read("<!----><a/>");
        Check.due("piece(1, 0)", x.piece(1, 0), 2);
        noPiece(x, 2);
    }

    static void piece149IsTheLastOf150() {
        NestedTags x = Check.read("<a>" + "x<b/>".repeat(74) + "</a>");
        Check.due("piece(149, 0)", x.piece(149, 0), 1);
        Check.due("piece(149, 1)", x.piece(149, 1), 373);
        Check.due("piece(149, 2)", x.piece(149, 2), 377);
        Check.due("piece(149, 3)", x.piece(149, 3), 1);
        noPiece(x, 150);
        noPiece(x, 151);
    }

    static void thePieceThatIsOneTooManyIsNone() {
        NestedTags x = Check.read("<a>" + "x<b/>".repeat(74) + "x</a>");
        Check.due("piece(149, 0)", x.piece(149, 0), 4);
        noPiece(x, 150);
    }

    static void noPieceBeforeTheFirst() {
        NestedTags x = Check.read("<a/>");
        noPiece(x, -1);
        noPiece(x, -150);
        noPiece(x, Integer.MIN_VALUE);
    }

    static void noPieceFarBehindTheLast() {
        NestedTags x = Check.read("<a/>");
        for (int k : new int[] {2, 149, 150, 256, 65536, Integer.MAX_VALUE}) {
            noPiece(x, k);
        }
    }

    static void noPieceBeforeAReading() {
        NestedTags x = new NestedTags();
        noPiece(x, 0);
        Check.putText(x, "<a/>");
        noPiece(x, 0);
    }

    static void noPieceAtOrBehindAFault() {
        NestedTags x = Check.read("<a>&foo;<b/></a>");
        Check.due("piece(0, 0)", x.piece(0, 0), 0);
        noPiece(x, 1);
    }

    static void noPieceOfAnEarlierText() {
        NestedTags x = Check.read("<a b='' c=''>d</a>");
        Check.putText(x, "<!----><a/>");
        Check.due("piece(4, 0) before the reading", x.piece(4, 0), 1);
        x.read();
        Check.due("pieces", Check.piecesOf(x), "7:0-7@0 2:7-11@0");
        noPiece(x, 2);
        noPiece(x, 4);
        x.read();
        noPiece(x, 0);
    }

    private static void noPiece(NestedTags x, int k) {
        for (int what = -1; what <= 4; what++) {
            Check.due("piece(" + k + ", " + what + ")", x.piece(k, what), -1);
        }
    }
}
