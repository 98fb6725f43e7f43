/** Terms: the PIECES, with their order, kinds, begins, ends and depths. */
public final class PieceTermsTest {
    public static void main(String[] args) {
        Check.run(PieceTermsTest.class);
    }

    // PIECES in the order in which they end

    static void attributesComeBeforeTheirTag() {
        Check.pieces("<a b='c'/>", "3:3-8@0 2:0-10@0");
        Check.pieces("<a b='' c=''></a>", "3:3-7@0 3:8-12@0 0:0-13@0 1:13-17@1");
    }

    static void elementsInOneAnotherComeAsTheirTags() {
        Check.pieces("<a><b></b></a>", "0:0-3@0 0:3-6@1 1:6-10@2 1:10-14@1");
    }

    // 0 a START tag, 1 an END tag, 2 an EMPTY one (with '/>')

    static void startTags() {
        Check.pieces("<a>", "0:0-3@0");
        Check.pieces("<a  >", "0:0-5@0");
    }

    static void endTags() {
        Check.pieces("<a></a>", "0:0-3@0 1:3-7@1");
        Check.pieces("<a></a \n>", "0:0-3@0 1:3-9@1");
    }

    static void emptyTags() {
        Check.pieces("<a/>", "2:0-4@0");
        Check.pieces("<a />", "2:0-5@0");
    }

    // 3 an ATTRIBUTE (from its name to its quote)

    static void attributes() {
        Check.pieces("<a  b='c' />", "3:4-9@0 2:0-12@0");
        Check.pieces("<a b = \"&lt;'\" c=''>", "3:3-14@0 3:15-19@0 0:0-20@0");
        Check.pieces("<a long\t=\n''/>", "3:3-12@0 2:0-14@0");
    }

    // 4 CHARACTERS (in content, as many as stand together)

    static void charactersStandTogether() {
        Check.pieces("<a>x\n\ty</a>", "0:0-3@0 4:3-7@1 1:7-11@1");
        Check.pieces("<a> </a>", "0:0-3@0 4:3-4@1 1:4-8@1");
        Check.pieces("<a>" + "x".repeat(493) + "</a>", "0:0-3@0 4:3-496@1 1:496-500@1");
    }

    static void charactersAreCutByAllElse() {
        Check.pieces("<a>x&lt;y<b/>z</a>", "0:0-3@0 4:3-4@1 5:4-8@1 4:8-9@1 2:9-13@1 4:13-14@1 1:14-18@1");
        Check.pieces("<a>]]<!---->></a>", "0:0-3@0 4:3-5@1 7:5-12@1 4:12-13@1 1:13-17@1");
        Check.pieces("<a>x<?p?>y<![CDATA[]]>z</a>", "0:0-3@0 4:3-4@1 8:4-9@1 4:9-10@1 6:10-22@1 4:22-23@1 1:23-27@1");
    }

    static void charactersOutsideOfContentAreNone() {
        Check.pieces(" \n<a b='c'/> \t", "3:5-10@0 2:2-12@0");
        Check.pieces(" <!-- x --> <a></a>\n", "7:1-11@0 0:12-15@0 1:15-19@1");
    }

    static void noCharactersAreNoPiece() {
        Check.pieces("<a></a>", "0:0-3@0 1:3-7@1");
        Check.pieces("<a>&lt;&lt;</a>", "0:0-3@0 5:3-7@1 5:7-11@1 1:11-15@1");
    }

    // 5 a REFERENCE in content

    static void referencesInContent() {
        Check.pieces("<a>&amp;&#9;&#x41;</a>", "0:0-3@0 5:3-8@1 5:8-12@1 5:12-18@1 1:18-22@1");
    }

    static void referencesInValuesAreNone() {
        Check.pieces("<a b='&amp;&#9;'/>", "3:3-16@0 2:0-18@0");
    }

    // 6 a SECTION ('<![CDATA['), 7 a COMMENT, 8 an INSTRUCTION.

    static void sections() {
        Check.pieces("<a><![CDATA[]]></a>", "0:0-3@0 6:3-15@1 1:15-19@1");
        Check.pieces("<a><![CDATA[<b>&]]]]></a>", "0:0-3@0 6:3-21@1 1:21-25@1");
    }

    static void comments() {
        Check.pieces("<!----><a><!-- - --></a><!---->", "7:0-7@0 0:7-10@0 7:10-20@1 1:20-24@1 7:24-31@0");
    }

    static void instructions() {
        Check.pieces("<?p?><a><?q x?></a><?r ?>", "8:0-5@0 0:5-8@0 8:8-15@1 1:15-19@1 8:19-25@0");
    }

    // A piece BEGINS at its first character, and ENDS behind its last one

    static void thePlacesOfTheFirstAndTheLastPiece() {
        Check.pieces(" ".repeat(496) + "<a/>", "2:496-500@0");
        Check.pieces("<" + "a".repeat(497) + "/>", "2:0-500@0");
        Check.pieces("<a/>" + " ".repeat(496), "2:0-4@0");
    }

    // .. its DEPTH is how many elements are open where it begins (for an END tag with its own; for an ATTRIBUTE without).

    static void depthsOfTagsAndAttributes() {
        Check.pieces("<a><b c=''><d e=''/>f</b></a>",
            "0:0-3@0 3:6-10@1 0:3-11@1 3:14-18@2 2:11-20@2 4:20-21@2 1:21-25@2 1:25-29@1");
    }

    static void depthsOfAllElse() {
        Check.pieces("<a><b>x&lt;<![CDATA[]]><!----><?p?></b>x</a>",
            "0:0-3@0 0:3-6@1 4:6-7@2 5:7-11@2 6:11-23@2 7:23-30@2 8:30-35@2 1:35-39@2 4:39-40@1 1:40-44@1");
    }

    static void depthsOutsideOfTheElement() {
        Check.pieces("<!----><a/><!---->", "7:0-7@0 2:7-11@0 7:11-18@0");
    }

    static void theGreatestDepth() {
        NestedTags x = Check.read("<a>".repeat(20) + "x" + "</a>".repeat(20));
        Check.due("depth of the last START tag", x.piece(19, 3), 19);
        Check.due("depth of the CHARACTERS", x.piece(20, 3), 20);
        Check.due("depth of the first END tag", x.piece(21, 3), 20);
        Check.due("depth of the last END tag", x.piece(40, 3), 1);
        NestedTags y = Check.read("<a>".repeat(19) + "<a b=''/>");
        Check.due("depth of an ATTRIBUTE in element 20", y.piece(19, 3), 19);
        Check.due("depth of an EMPTY element 20", y.piece(20, 3), 19);
    }

    // CHARACTERS that stand at the text's end are none.

    static void charactersAtTheTextsEndAreNone() {
        Check.pieces("<a>x", "0:0-3@0");
        Check.pieces("<a>]]", "0:0-3@0");
        Check.pieces("<a> ", "0:0-3@0");
        Check.pieces("<a><b/>xyz", "0:0-3@0 2:3-7@1");
        Check.pieces("<a>" + "x".repeat(497), "0:0-3@0");
    }

    static void charactersInFrontOfTheTextsLastByteAreAPiece() {
        Check.pieces("<a>xyz<", "0:0-3@0 4:3-6@1");
        Check.pieces("<a>xyz&", "0:0-3@0 4:3-6@1");
    }

    // Where the document leaves a choice (README.md).

    static void charactersInFrontOfAByteThatIsNoneAreAPiece() {
        Check.pieces("<a>xyz\u0001</a>", "0:0-3@0 4:3-6@1");
        Check.pieces("<a>xyz\u007f", "0:0-3@0 4:3-6@1");
    }

    static void charactersThatRunIntoASectionEndAreNone() {
        Check.pieces("<a>x]]></a>", "0:0-3@0");
        Check.pieces("<a>]]>", "0:0-3@0");
    }
}
