/** Terms: a TEXT and its characters, BLANKS, a NAME; each sentence with the edges that it names. */
public final class TextTermsTest {
    private static final String BLANKS = "\t\n\r ";
    /** The bytes next to the blanks, and others that some call blank. */
    private static final String NO_BLANKS = "\b\u000b\f\u000e\u001f!\u0000\u0085\u00a0";
    /** The bytes next to the letters, digits, _ : - and . but for the slash, which has a meaning in tags. */
    private static final String NO_NAME_PARTS = "@[`{;,^+\u007f\u00c0\u00df\u00ff\u0000";
    private static final String NO_NAME_STARTS = NO_NAME_PARTS + "09-.";

    public static void main(String[] args) {
        Check.run(TextTermsTest.class);
    }

    // A TEXT is a row of bytes, at most 500.

    static void aTextMayHave500Bytes() {
        Check.whole("<a>" + "x".repeat(493) + "</a>", 3);
        Check.whole("<a/>" + " ".repeat(496), 1);
    }

    static void aTextHasNoByte501() {
        NestedTags x = new NestedTags();
        Check.putText(x, "<a/>" + " ".repeat(496));
        Check.due("put of byte 501", x.put(' ', 1), false);
        Check.due("read of 500 bytes", x.read(), 1);
    }

    static void aTextOf500BytesMayEndInAFault() {
        Check.syntax("<a>" + "x".repeat(497), 500, 1);
        Check.syntax("<a" + " ".repeat(498), 500, 0);
        Check.syntax("<" + "a".repeat(499), 500, 0);
        Check.syntax("<a b='" + "c".repeat(494), 500, 0);
        Check.syntax("<!--" + "c".repeat(496), 500, 0);
        Check.syntax("<!--" + "c".repeat(494) + "--", 500, 0);
        Check.syntax("<?p " + "?".repeat(496), 500, 0);
        Check.syntax("<a>&#" + "6".repeat(495), 500, 1);
        Check.syntax("<a>&" + "b".repeat(496), 500, 1);
        Check.syntax("<a><![CDATA[" + "]".repeat(488), 500, 1);
        Check.fault("<a></" + "b".repeat(495), 3, 5, 1);
    }

    // Its characters are 9, 10, 13 and 32 .. 126, each a byte.

    static void charactersInContent() {
        for (int b = 0; b < 256; b++) {
            if (!isCharacter(b)) {
                Check.syntax("<a>" + (char) b + "</a>", 3, 1);
            } else if (b != '<' && b != '&') {
                Check.whole("<a>" + (char) b + "</a>", 3);
            }
        }
    }

    static void charactersInComments() {
        for (int b = 0; b < 256; b++) {
            if (isCharacter(b)) {
                Check.whole("<!-- " + (char) b + " --><a/>", 2);
            } else {
                Check.syntax("<!-- " + (char) b + " --><a/>", 5, 0);
            }
        }
    }

    static void charactersInInstructions() {
        for (int b = 0; b < 256; b++) {
            if (isCharacter(b)) {
                Check.whole("<?p q" + (char) b + " ?><a/>", 2);
            } else {
                Check.syntax("<?p q" + (char) b + " ?><a/>", 5, 0);
            }
        }
    }

    static void charactersInSections() {
        for (int b = 0; b < 256; b++) {
            if (isCharacter(b)) {
                Check.whole("<a><![CDATA[" + (char) b + "]]></a>", 3);
            } else {
                Check.syntax("<a><![CDATA[" + (char) b + "]]></a>", 12, 1);
            }
        }
    }

    static void charactersInValues() {
        for (int b = 0; b < 256; b++) {
            if (!isCharacter(b)) {
                Check.syntax("<a b='" + (char) b + "'/>", 6, 0);
                Check.syntax("<a b=\"c" + (char) b + "\"/>", 7, 0);
            } else if (b != '<' && b != '&' && b != '\'') {
                Check.whole("<a b='" + (char) b + "'/>", 2);
            }
        }
    }

    static void bytesThatAreNoCharactersStandNowhereElse() {
        for (int b = 0; b < 256; b++) {
            if (!isCharacter(b)) {
                Check.syntax((char) b + "<a/>", 0, 0);
                Check.syntax("<a/>" + (char) b, 4, 1);
                Check.syntax("<" + (char) b, 1, 0);
                Check.syntax("<a" + (char) b, 2, 0);
                Check.syntax("<a " + (char) b, 3, 0);
                Check.syntax("<a></a" + (char) b, 6, 1);
                Check.syntax("<a>&lt" + (char) b, 6, 1);
            }
        }
    }

    // BLANKS are 9, 10, 13, 32.

    static void blanksRoundTheElement() {
        for (char b : BLANKS.toCharArray()) {
            Check.whole(b + "<a/>" + b, 1);
        }
        for (char b : NO_BLANKS.toCharArray()) {
            Check.syntax(b + "<a/>", 0, 0);
            Check.syntax("<a/>" + b, 4, 1);
        }
    }

    static void blanksInStartTags() {
        for (char b : BLANKS.toCharArray()) {
            Check.whole("<a" + b + "/>", 1);
            Check.whole("<a" + b + "></a>", 2);
            Check.whole("<a" + b + "b" + b + "=" + b + "''" + b + "/>", 2);
        }
        for (char b : NO_BLANKS.toCharArray()) {
            Check.syntax("<a" + b + "/>", 2, 0);
            Check.syntax("<a" + b + "b=''/>", 2, 0);
            Check.syntax("<a b" + b + "=''/>", 4, 0);
            Check.syntax("<a b=" + b + "''/>", 5, 0);
            Check.syntax("<a b=''" + b + "/>", 7, 1);
        }
    }

    static void blanksInEndTags() {
        for (char b : BLANKS.toCharArray()) {
            Check.whole("<a></a" + b + ">", 2);
        }
        for (char b : NO_BLANKS.toCharArray()) {
            Check.syntax("<a></a" + b + ">", 6, 1);
        }
    }

    static void blanksInInstructions() {
        for (char b : BLANKS.toCharArray()) {
            Check.whole("<?p" + b + "?><a/>", 2);
        }
        for (char b : NO_BLANKS.toCharArray()) {
            Check.syntax("<?p" + b + "?><a/>", 3, 0);
        }
    }

    // A NAME begins with a letter A .. Z a .. z, _ or :, and goes on with these, digits, - and .

    static void namesMayBeginWithLettersAndTwoSigns() {
        for (char start : "AZazMm_:".toCharArray()) {
            Check.whole("<" + start + "/>", 1);
            Check.whole("<a " + start + "=''/>", 2);
            Check.whole("<" + start + "></" + start + ">", 2);
            Check.whole("<?" + start + "?><a/>", 2);
            Check.fault("<a>&" + start + ";", 5, 3, 1);
        }
    }

    static void namesBeginWithNothingElse() {
        for (char start : NO_NAME_STARTS.toCharArray()) {
            Check.syntax("<a><" + start + "b", 4, 1);
            Check.syntax("<a " + start + "b=''/>", 3, 0);
            Check.syntax("<a></" + start + "a>", 5, 1);
            Check.syntax("<a>&" + start + "lt;", 4, 1);
            Check.syntax("<?" + start + "p?>", 2, 0);
        }
    }

    static void namesMayGoOnWithTheseDigitsAndTwoMore() {
        for (char part : "AZazMm_:09-.".toCharArray()) {
            Check.whole("<a" + part + "/>", 1);
            Check.whole("<a b" + part + "=''/>", 2);
            Check.whole("<a" + part + "></a" + part + ">", 2);
            Check.whole("<?p" + part + "?><a/>", 2);
            Check.fault("<a>&lt" + part + ";", 5, 3, 1);
        }
    }

    static void namesGoOnWithNothingElse() {
        for (char part : NO_NAME_PARTS.toCharArray()) {
            Check.syntax("<a" + part + "b", 2, 0);
            Check.syntax("<a b" + part + "=''/>", 4, 0);
            Check.syntax("<a></a" + part + "b", 6, 1);
            Check.syntax("<?p" + part + "?><a/>", 3, 0);
            if (part != ';') {
                Check.syntax("<a>&lt" + part + ";", 6, 1);
            }
        }
    }

    static void aSlashIsNoPartOfAName() {
        Check.syntax("<a/b></a/b>", 3, 0);
        Check.syntax("<a b/=''>", 4, 0);
        Check.syntax("<a /b=''>", 4, 0);
        Check.syntax("<a></a/>", 6, 1);
        Check.syntax("<a><//a>", 5, 1);
        Check.syntax("<a>&lt/;", 6, 1);
        Check.syntax("<?p/?>", 3, 0);
        Check.syntax("<?/p?>", 2, 0);
    }

    static void namesAreNeverEmpty() {
        Check.syntax("<>", 1, 0);
        Check.syntax("</>", 1, 0);
        Check.syntax("<a></>", 5, 1);
        Check.syntax("<a =''>", 3, 0);
        Check.syntax("<a>&;", 4, 1);
        Check.syntax("<??>", 2, 0);
    }

    static void namesMayBeAsLongAsTheText() {
        String name = "n".repeat(247);
        Check.whole("<" + name + "></" + name.substring(1) + "n>", 2);
        Check.fault("<" + name + "></" + name.substring(1) + "m>", 3, 251, 1);
        Check.fault("<" + name + "></" + name.substring(1) + ">", 3, 251, 1);
        Check.whole("<" + "n".repeat(497) + "/>", 1);
    }

    private static boolean isCharacter(int b) {
        return b == 9 || b == 10 || b == 13 || b >= 32 && b <= 126;
    }
}
