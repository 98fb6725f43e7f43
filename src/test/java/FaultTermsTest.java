/** Terms: the FAULTS, each with its place, when it is met, and which of two is the first. */
public final class FaultTermsTest {
    private static final String DEEPEST = "<a>".repeat(20);
    private static final String EIGHT = "<a a='' b='' c='' d='' e='' f='' g='' h=''";
    /** A START tag and 74 times CHARACTERS and an EMPTY tag: 149 pieces. */
    private static final String NEARLY_FULL = "<a>" + "x<b/>".repeat(74);
    /** As many pieces as there may be, with < or & behind it: the next one is one too many. */
    private static final String FULL = NEARLY_FULL + "x";
    private static final int FULL_END = FULL.length();

    public static void main(String[] args) {
        Check.run(FaultTermsTest.class);
    }

    // The first that is met counts.

    static void aFaultInFrontOfSyntaxCounts() {
        Check.fault("<a></b>x", 3, 5, 1);
        Check.fault("<a b='' b=''<", 4, 8, 1);
        Check.fault("<a>&foo;<", 5, 3, 1);
        Check.fault("<a>&#0;]]>", 8, 3, 1);
        Check.fault("<?xml?>x", 11, 2, 0);
        Check.fault(DEEPEST + "<a><", 15, 61, 20);
    }

    static void syntaxInFrontOfAFaultCounts() {
        Check.syntax("<a>]]></b>", 5, 1);
        Check.syntax("<a b=''b=''>", 7, 1);
        Check.syntax("<a b=&foo;", 5, 0);
        Check.syntax("x<?xml?>", 0, 0);
        Check.syntax("<a>\u0000&#0;", 3, 1);
        Check.syntax(DEEPEST + "<<a>", 61, 20);
    }

    static void ofTwoOtherFaultsTheFirstCounts() {
        Check.fault("<a>&foo;&#0;</b>", 5, 3, 1);
        Check.fault("<a>&#0;&foo;</b>", 8, 3, 1);
        Check.fault("<a><?xml?></b>", 11, 5, 1);
        Check.fault("<a></b><?xml?>", 3, 5, 1);
        Check.fault("<a b='&foo;' b=''>", 5, 6, 0);
        Check.fault("<a b='' b='&foo;'>", 4, 8, 1);
        Check.fault("<a b='' b='' b=''>", 4, 8, 1);
    }

    // 2 SYNTAX: at the first byte with which no text goes on that the productions allow, or at the text's end.

    static void syntaxIsAtTheFirstByteWithWhichNoTextGoesOn() {
        Check.syntax("x", 0, 0);
        Check.syntax("<a>< b/></a>", 4, 1);
        Check.syntax("<a b='1' c=2></a>", 11, 1);
        Check.syntax("<a/><![CDATA[]]>", 6, 1);
        Check.syntax("<a><!-- -- --></a>", 10, 1);
    }

    static void syntaxAtTheTextsEndIsBehindItsLastByte() {
        Check.syntax("", 0, 0);
        Check.syntax("<", 1, 0);
        Check.syntax("<a>", 3, 1);
        Check.syntax("<a>x", 4, 1);
        Check.syntax(" ".repeat(500), 500, 0);
    }

    static void theFirstByteMayBeTheLast() {
        Check.syntax("<a/>x", 4, 1);
        Check.syntax("<a><!x", 5, 1);
        Check.syntax("<a/" + "/", 3, 0);
    }

    // Each of the others when its item has been read to its end: a reference with its ;

    static void aReferenceIsReadWithItsEnd() {
        Check.fault("<a>&foo;", 5, 3, 1);
        Check.fault("<a>&#0;", 8, 3, 1);
        Check.fault("<a>&#x0;", 8, 3, 1);
    }

    static void aReferenceWithoutItsEndIsSyntax() {
        Check.syntax("<a>&foo", 7, 1);
        Check.syntax("<a>&foo ;", 7, 1);
        Check.syntax("<a>&foo<", 7, 1);
        Check.syntax("<a>&foo\u0000", 7, 1);
        Check.syntax("<a>&#0", 6, 1);
        Check.syntax("<a>&#0 ;", 6, 1);
        Check.syntax("<a>&#x0g;", 7, 1);
        Check.syntax("<a b='&foo'", 10, 0);
        Check.syntax("<a b='&#999999'", 14, 0);
    }

    // .. a name when what stands behind it is no part of it, or is the text's end, whatever it is.

    static void aNameEndsAtTheTextsEnd() {
        Check.fault("<a></b", 3, 5, 1);
        Check.fault("<a b='' b", 4, 8, 1);
        Check.fault("<?xml", 11, 2, 0);
        Check.fault(DEEPEST + "<a", 15, 61, 20);
        Check.fault(EIGHT + " i", 15, 43, 8);
    }

    static void aNameEndsAtAnyByteThatIsNoPartOfIt() {
        for (int b = 0; b < 256; b++) {
            char c = (char) b;
            if (!isNamePart(c)) {
                Check.fault("<a></b" + c, 3, 5, 1);
                Check.fault("<a b='' b" + c, 4, 8, 1);
                Check.fault("<?xml" + c, 11, 2, 0);
                Check.fault(DEEPEST + "<a" + c, 15, 61, 20);
                Check.fault(EIGHT + " i" + c, 15, 43, 8);
            }
        }
    }

    static void aNameGoesOnWithAnyPartOfIt() {
        for (int b = 0; b < 256; b++) {
            char c = (char) b;
            if (isNamePart(c)) {
                Check.whole("<b" + c + "></b" + c + ">", 2);
                Check.whole("<a b='' b" + c + "=''/>", 3);
                Check.whole("<?xml" + c + "?><a/>", 2);
            }
        }
    }

    // 3 the name behind '</' is not that of the latest element that is open (at the name)

    static void anEndTagWithAnotherName() {
        Check.fault("<a></b>", 3, 5, 1);
        Check.fault("<a>x</b>", 3, 6, 2);
    }

    static void anEndTagWithAShorterOrALongerName() {
        Check.fault("<ab></a>", 3, 6, 1);
        Check.fault("<ab></b>", 3, 6, 1);
        Check.fault("<a></ab>", 3, 5, 1);
        Check.fault("<a></aa>", 3, 5, 1);
        Check.fault("<aa></a>", 3, 6, 1);
    }

    static void anEndTagInAnotherCaseOfLetters() {
        Check.fault("<a></A>", 3, 5, 1);
        Check.fault("<A></a>", 3, 5, 1);
    }

    static void anEndTagThatDiffersInOneByteAlone() {
        Check.fault("<abc></xbc>", 3, 7, 1);
        Check.fault("<abc></axc>", 3, 7, 1);
        Check.fault("<abc></abx>", 3, 7, 1);
    }

    static void anEndTagOfAnEarlierElement() {
        Check.fault("<a><b></a></b>", 3, 8, 2);
    }

    static void anEndTagOfAnElementThatIsOpenNoMore() {
        Check.fault("<a><b></b></b>", 3, 12, 3);
        Check.fault("<a><b/></b>", 3, 9, 2);
    }

    static void anEndTagOfTheLatestElement() {
        Check.whole("<a><a></a></a>", 4);
        Check.whole("<ab><a></a></ab>", 4);
        Check.whole("<a><b></b><b></b></a>", 6);
        Check.whole("<a b='' c=''></a>", 4);
    }

    // 4 an attribute's name was in this tag (at it)

    static void anAttributesNameAgain() {
        Check.fault("<a b='' b=''/>", 4, 8, 1);
        Check.fault("<a><c b='' b=''", 4, 11, 2);
    }

    static void anAttributesNameAgainBehindOthers() {
        Check.fault("<a b='' c='' b=''/>", 4, 13, 2);
        Check.fault("<a b='' c='' c=''/>", 4, 13, 2);
        Check.fault("<a a='' b='' c='' d='' e='' f='' g='' d=''", 4, 38, 7);
    }

    static void anAttributesNameAgainWithAnotherValue() {
        Check.fault("<a b='1' b=\"2\"/>", 4, 9, 1);
        Check.fault("<a b='' b", 4, 8, 1);
    }

    static void anAttributesNameInAnotherTag() {
        Check.whole("<a b=''><c b=''/><d b=''></d></a>", 8);
        Check.whole("<a b=''><a b=''></a></a>", 6);
    }

    static void anAttributesNameThatIsNearlyAnother() {
        Check.whole("<a b='' B='' bb='' a='' ab=''/>", 6);
    }

    static void anAttributesNameMayBeItsElements() {
        Check.whole("<a a=''/>", 2);
    }

    // 5 the name in a reference is none of lt gt amp apos quot (at the &)

    static void theFiveNamesInReferences() {
        Check.whole("<a>&lt;&gt;&amp;&apos;&quot;</a>", 7);
        Check.whole("<a b='&lt;&gt;&amp;&apos;&quot;'/>", 2);
    }

    static void otherNamesInReferences() {
        for (String name : new String[] {"foo", "nbsp", "a", "x41", ":", "_"}) {
            Check.fault("<a>&" + name + ";", 5, 3, 1);
            Check.fault("<a b='x&" + name + ";", 5, 7, 0);
        }
    }

    static void namesInReferencesThatAreNearlyOneOfTheFive() {
        String[] near = {"l", "t", "g", "am", "mp", "apo", "pos", "quo", "uot", "ltt", "llt", "gtt", "amps", "aamp", "aposs",
            "quott", "lt.", "gt-", "amp0", "apos:", "quot_", "lg", "xmp", "axp", "amx", "apoz", "quat"};
        for (String name : near) {
            Check.fault("<a>&" + name + ";", 5, 3, 1);
        }
    }

    static void namesInReferencesInAnotherCaseOfLetters() {
        for (String name : new String[] {"LT", "Lt", "lT", "GT", "Amp", "AMP", "aPos", "quoT"}) {
            Check.fault("<a>&" + name + ";", 5, 3, 1);
        }
    }

    static void anUnknownReferenceBehindCharacters() {
        Check.fault("<a>x&foo;</b>", 5, 4, 2);
        Check.fault("<a>&lt;&foo;", 5, 7, 2);
    }

    // 8 a reference to a number that is no character (at the &)

    static void numbersAroundTheCharacters() {
        for (int number = 0; number < 300; number++) {
            boolean character = number == 9 || number == 10 || number == 13 || number >= 32 && number <= 126;
            String hex = Integer.toHexString(number);
            String[] forms = {"&#" + number + ";", "&#x" + hex + ";", "&#x" + hex.toUpperCase() + ";", "&#00" + number + ";"};
            for (String form : forms) {
                if (character) {
                    Check.whole("<a>" + form + "</a>", 3);
                    Check.whole("<a b='" + form + "'/>", 2);
                } else {
                    Check.fault("<a>" + form + "</a>", 8, 3, 1);
                    Check.fault("<a b='" + form + "'/>", 8, 6, 0);
                }
            }
        }
    }

    static void numbersThatWouldWrapAroundToACharacter() {
        Check.fault("<a>&#321;</a>", 8, 3, 1);
        Check.fault("<a>&#65601;</a>", 8, 3, 1);
        Check.fault("<a>&#4294967361;</a>", 8, 3, 1);
        Check.fault("<a>&#x100000041;</a>", 8, 3, 1);
        Check.fault("<a>&#18446744073709551681;</a>", 8, 3, 1);
        Check.fault("<a>&#x10000000000000041;</a>", 8, 3, 1);
    }

    static void numbersWithManyDigits() {
        Check.fault("<a>&#" + "9".repeat(400) + ";</a>", 8, 3, 1);
        Check.fault("<a>&#x1" + "0".repeat(400) + ";</a>", 8, 3, 1);
        Check.fault("<a>&#2147483647;&#2147483648;", 8, 3, 1);
        Check.fault("<a>&#" + "0".repeat(400) + ";</a>", 8, 3, 1);
    }

    static void numbersWithManyNoughtsInFront() {
        Check.whole("<a>&#" + "0".repeat(400) + "65;</a>", 3);
        Check.whole("<a>&#x" + "0".repeat(400) + "7E;</a>", 3);
    }

    static void numbersOfSignsThatMayNotStandAsTheyAre() {
        Check.whole("<a b='&#60;&#38;&#39;'>&#60;&#38;&#x3c;&#x26;</a>", 7);
    }

    // 11 an instruction is called xml, in any case of letters (at the name)

    static void anInstructionCalledXmlInEachCaseOfLetters() {
        for (String name : new String[] {"xml", "xmL", "xMl", "xML", "Xml", "XmL", "XMl", "XML"}) {
            Check.fault("<?" + name + "?><a/>", 11, 2, 0);
            Check.fault("<?" + name + " version='1.0'?><a/>", 11, 2, 0);
        }
    }

    static void anInstructionCalledXmlAnywhere() {
        Check.fault(" <?xml?><a/>", 11, 3, 0);
        Check.fault("<!----><?xml?><a/>", 11, 9, 1);
        Check.fault("<a><?xml?></a>", 11, 5, 1);
        Check.fault("<a/> <?xml?>", 11, 7, 1);
    }

    static void anInstructionCalledNearlyXml() {
        String[] near = {"x", "xm", "ml", "xmll", "xxml", "xml-a", "xml.", "xml:", "xml1", "_xml", "xnl", "xll", "lmx", "yml",
            "xmk", "Wml", "xLl", "xmM"};
        for (String name : near) {
            Check.whole("<?" + name + "?><a/>", 2);
        }
    }

    static void otherThingsMayBeCalledXml() {
        Check.whole("<xml xml=''/>", 2);
        Check.whole("<?p xml?><a/>", 2);
    }

    // 15 there would be more than 20 elements open (an EMPTY one is, too) .. (at the name)

    static void twentyElementsMayBeOpen() {
        Check.whole(DEEPEST + "</a>".repeat(20), 40);
        Check.whole("<a>".repeat(19) + "<a/>" + "</a>".repeat(19), 39);
    }

    static void element21IsOneTooMany() {
        Check.fault(DEEPEST + "<a>", 15, 61, 20);
        Check.fault(DEEPEST + "x<long b=''>", 15, 62, 21);
    }

    static void anEmptyElement21IsOneTooMany() {
        Check.fault(DEEPEST + "<a/>", 15, 61, 20);
    }

    static void elementsThatAreOpenNoMoreDoNotCount() {
        Check.whole("<a>".repeat(19) + "<a/><a></a><a/>" + "</a>".repeat(19), 42);
        Check.whole("<a>" + "<b></b>".repeat(50) + "</a>", 102);
        Check.fault(DEEPEST + "</a><a/><a><a/>", 15, 72, 23);
    }

    static void element21WithoutANameIsSyntax() {
        Check.syntax(DEEPEST + "<", 61, 20);
        Check.syntax(DEEPEST + "<9", 61, 20);
    }

    static void twentyOpenElementsMayHoldAllElse() {
        Check.whole(DEEPEST + "x&lt;<!----><?p?><![CDATA[]]>" + "</a>".repeat(20), 45);
        Check.fault(DEEPEST + "</b>", 3, 62, 20);
    }

    // .. or 8 attributes in a tag (at the name; behind 4)

    static void eightAttributesMayBeInATag() {
        Check.whole(EIGHT + "/>", 9);
        Check.whole(EIGHT + " ></a>", 10);
    }

    static void attributeNineIsOneTooMany() {
        Check.fault(EIGHT + " i=''/>", 15, 43, 8);
        Check.fault(EIGHT + "  long=''/>", 15, 44, 8);
    }

    static void attributesOfOtherTagsDoNotCount() {
        Check.whole(EIGHT + " ><b" + EIGHT.substring(2) + "/></a>", 19);
        Check.fault("<r b=''>" + EIGHT + " i=''/>", 15, 51, 10);
    }

    static void attributeNineWithAnOldNameIsFault4() {
        Check.fault(EIGHT + " h=''", 4, 43, 8);
        Check.fault(EIGHT + " a=''", 4, 43, 8);
        Check.fault(EIGHT + " d", 4, 43, 8);
    }

    static void attributeNineWithoutANameIsSyntax() {
        Check.syntax(EIGHT + " !", 43, 8);
        Check.syntax(EIGHT + " ", 43, 8);
        Check.syntax(EIGHT + "i", 42, 8);
    }

    // .. or 150 pieces (where the piece begins).

    static void thereMayBe150Pieces() {
        Check.whole(NEARLY_FULL + "</a>", 150);
        Check.whole(NEARLY_FULL + "</a>  ", 150);
    }

    static void piece151OfEachKind() {
        Check.fault(FULL + "<c>", 15, FULL_END, 150);
        Check.fault(FULL + "</a>", 15, FULL_END, 150);
        Check.fault(FULL + "</a  >", 15, FULL_END, 150);
        Check.fault(FULL + "<c/>", 15, FULL_END, 150);
        Check.fault(FULL + "<c  d=''/>", 15, FULL_END + 4, 150);
        Check.fault(NEARLY_FULL + "&lt;xy<", 15, FULL_END + 3, 150);
        Check.fault(NEARLY_FULL + "&lt;xy&", 15, FULL_END + 3, 150);
        Check.fault(FULL + "&lt;", 15, FULL_END, 150);
        Check.fault(FULL + "<![CDATA[]]>", 15, FULL_END, 150);
        Check.fault(FULL + "<!---->", 15, FULL_END, 150);
        Check.fault(FULL + "<?p?>", 15, FULL_END, 150);
    }

    static void piece151BehindTheElement() {
        Check.fault(NEARLY_FULL + "</a><?p?>", 15, FULL_END + 3, 150);
        Check.fault(NEARLY_FULL + "</a> <!---->", 15, FULL_END + 4, 150);
    }

    static void aTagIsPiece151BehindItsAttribute() {
        Check.fault(NEARLY_FULL + "<c d=''>", 15, FULL_END - 1, 150);
        Check.fault(NEARLY_FULL + "<c d=''/>", 15, FULL_END - 1, 150);
        Check.fault(NEARLY_FULL + "<c d='' e=''", 15, FULL_END + 7, 150);
    }

    static void beforeItsEndPiece151IsNone() {
        Check.syntax(FULL + "<", FULL_END + 1, 150);
        Check.syntax(FULL + "<c", FULL_END + 2, 150);
        Check.syntax(FULL + "<c/", FULL_END + 3, 150);
        Check.syntax(FULL + "</a", FULL_END + 3, 150);
        Check.syntax(FULL + "<c d='", FULL_END + 6, 150);
        Check.syntax(FULL + "&lt", FULL_END + 3, 150);
        Check.syntax(FULL + "<![CDATA[]]", FULL_END + 11, 150);
        Check.syntax(FULL + "<!----", FULL_END + 6, 150);
        Check.syntax(FULL + "<?p?", FULL_END + 4, 150);
        Check.syntax(NEARLY_FULL + "&lt;xy", FULL_END + 5, 150);
    }

    static void aFaultInsideOfPiece151CountsFirst() {
        Check.fault(FULL + "</b>", 3, FULL_END + 2, 150);
        Check.fault(FULL + "<c d='&foo;'", 5, FULL_END + 6, 150);
        Check.fault(FULL + "<c d='&#0;'", 8, FULL_END + 6, 150);
        Check.fault(FULL + "<?xml?>", 11, FULL_END + 2, 150);
        Check.fault(NEARLY_FULL + "<c d='' d=''", 4, FULL_END + 7, 150);
    }

    // Where the document leaves a choice (README.md).

    static void aReferenceWithAFaultOfItsOwnThatIsPiece151() {
        Check.fault(FULL + "&foo;", 5, FULL_END, 150);
        Check.fault(FULL + "&#0;", 8, FULL_END, 150);
    }

    static void charactersThatArePiece151BeforeAFault() {
        Check.fault(NEARLY_FULL + "&lt;xy\u0001", 15, FULL_END + 3, 150);
        Check.syntax(NEARLY_FULL + "&lt;]]>", FULL_END + 5, 150);
    }

    private static boolean isNamePart(char c) {
        return c >= 'A' && c <= 'Z' || c >= 'a' && c <= 'z' || c >= '0' && c <= '9' || "_:-.".indexOf(c) >= 0;
    }
}
