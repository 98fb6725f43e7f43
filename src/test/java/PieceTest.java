/** Promise 5: the pieces, in the order in which they end, with kind, begin, end and depth. */
public final class PieceTest {
    public static void main(String[] args) {
        everyKind();
        depths();
        charactersStandTogether();
        piecesUpToAFault();
        wrongArguments();
        theLastTextCounts();
        Check.end();
    }

    private static void everyKind() {
        Check.pieces("<a/>", "2:0-4@0");
        Check.pieces("<a></a>", "0:0-3@0 1:3-7@1");
        Check.pieces(" <a\n> </a\t> ", "0:1-5@0 4:5-6@1 1:6-11@1");
        Check.pieces("<a b='c'/>", "3:3-8@0 2:0-10@0");
        Check.pieces("<a b = \"&lt;'\" c=''>", "3:3-14@0 3:15-19@0 0:0-20@0");
        Check.pieces("<a>&amp;&#9;</a>", "0:0-3@0 5:3-8@1 5:8-12@1 1:12-16@1");
        Check.pieces("<a><![CDATA[]]></a>", "0:0-3@0 6:3-15@1 1:15-19@1");
        Check.pieces("<!----><a><!-- - --></a><!---->", "7:0-7@0 0:7-10@0 7:10-20@1 1:20-24@1 7:24-31@0");
        Check.pieces("<?p?><a><?q x?></a><?r ?>", "8:0-5@0 0:5-8@0 8:8-15@1 1:15-19@1 8:19-25@0");
    }

    private static void depths() {
        Check.pieces("<a><b c=''><d e=''/>f</b></a>",
            "0:0-3@0 3:6-10@1 0:3-11@1 3:14-18@2 2:11-20@2 4:20-21@2 1:21-25@2 1:25-29@1");
    }

    private static void charactersStandTogether() {
        Check.pieces("<a>x\n\ty</a>", "0:0-3@0 4:3-7@1 1:7-11@1");
        Check.pieces("<a>x&lt;y<b/>z</a>", "0:0-3@0 4:3-4@1 5:4-8@1 4:8-9@1 2:9-13@1 4:13-14@1 1:14-18@1");
        Check.pieces("<a>]]<!---->></a>", "0:0-3@0 4:3-5@1 7:5-12@1 4:12-13@1 1:13-17@1");
    }

    private static void piecesUpToAFault() {
        Check.pieces("<a>xyz", "0:0-3@0");
        Check.pieces("<a>xyz<", "0:0-3@0 4:3-6@1");
        Check.pieces("<a>xyz&", "0:0-3@0 4:3-6@1");
        Check.pieces("<a>xyz\u0001</a>", "0:0-3@0 4:3-6@1");
        Check.pieces("<a>x]]></a>", "0:0-3@0");
        Check.pieces("<a b='' c='", "3:3-7@0");
        Check.pieces("<a b='' b=''", "3:3-7@0");
        Check.pieces("<a>&foo;", "0:0-3@0");
        Check.pieces("<a></a", "0:0-3@0");
        Check.pieces("<a/", "");
        Check.pieces("<a/><!---->x", "2:0-4@0 7:4-11@0");
    }

    private static void wrongArguments() {
        NestedTags x = Check.read("<a/>");
        for (int what : new int[] {4, 5, -1, Integer.MAX_VALUE, Integer.MIN_VALUE}) {
            Check.due("piece(0, " + what + ")", x.piece(0, what), -1);
        }
        for (int k : new int[] {1, 149, 150, 151, -1, Integer.MAX_VALUE, Integer.MIN_VALUE}) {
            for (int what = 0; what <= 3; what++) {
                Check.due("piece(" + k + ", " + what + ")", x.piece(k, what), -1);
            }
        }
    }

    private static void theLastTextCounts() {
        NestedTags x = Check.read("<a b='' c=''>d</a>");
        Check.putText(x, "<!----><a/>");
        x.read();
        Check.due("pieces of the next text", Check.piecesOf(x), "7:0-7@0 2:7-11@0");
        Check.due("piece(2, 0)", x.piece(2, 0), -1);
    }
}
