/** Promise 3: reading, with each production and each fault. */
public final class ReadTest {
    /** 1 + 74 * 2 + 1 pieces: the next one is one too many. */
    private static final String FULL = "<a>" + "x<b/>".repeat(74) + "x";
    /** One piece less. */
    private static final String NEARLY_FULL = "<a>" + "x<b/>".repeat(74);

    public static void main(String[] args) {
        theTextAndItsMisc();
        names();
        comments();
        instructions();
        tags();
        values();
        characters();
        sections();
        bytesThatAreNoCharacters();
        referencesBySyntax();
        wrongEnds();
        attributesAgain();
        unknownReferences();
        numbersThatAreNoCharacters();
        reservedInstructions();
        tooManyElements();
        tooManyAttributes();
        tooManyPieces();
        readingEndsTheText();
        Check.end();
    }

    private static void syntax(String text, int place, int pieces) {
        Check.fault(text, 2, place, pieces);
    }

    private static void theTextAndItsMisc() {
        syntax("", 0, 0);
        syntax(" \t\r\n", 4, 0);
        Check.whole(" \t\r\n<a/> \t\r\n", 1);
        Check.whole("<?p?> <!----><?p?><a/><!----> <?p?>", 6);
        syntax("x<a/>", 0, 0);
        syntax("<a/>x", 4, 1);
        syntax("&lt;<a/>", 0, 0);
        syntax("<a/>&lt;", 4, 1);
        syntax("<a/><b/>", 5, 1);
        syntax("<a></a><b/>", 8, 2);
        syntax("<a/></a>", 5, 1);
        syntax("</a>", 1, 0);
        syntax("<![CDATA[]]><a/>", 2, 0);
        syntax("<a/><![CDATA[]]>", 6, 1);
        syntax("<!DOCTYPE a><a/>", 2, 0);
        syntax("<a/><", 5, 1);
        syntax("<a/><!", 6, 1);
        syntax("<!---->", 7, 1);
        syntax("<", 1, 0);
        syntax("<!", 2, 0);
        syntax("< a/>", 1, 0);
        syntax("<<a/>", 1, 0);
    }

    private static void names() {
        Check.whole("<A/>", 1);
        Check.whole("<Zz_:09-./>", 1);
        Check.whole("<_/>", 1);
        Check.whole("<:/>", 1);
        Check.whole("<z A-='' :.='' _9=''/>", 4);
        for (String start : new String[] {"0", "9", "-", ".", "@", "[", "`", "{", "\u00c0"}) {
            syntax("<" + start + "/>", 1, 0);
            syntax("<a " + start + "=''/>", 3, 0);
            syntax("<a></" + start, 5, 1);
            syntax("<a>&" + start, 4, 1);
            syntax("<?" + start, 2, 0);
        }
        for (String part : new String[] {"@", "[", "`", "{", "+", ",", ";", "\u00c0", "\u007f"}) {
            syntax("<a" + part + "/>", 2, 0);
        }
    }

    private static void comments() {
        Check.whole("<!----><a/>", 2);
        Check.whole("<!---> - <&]]>?>--><a/>", 2);
        Check.whole("<a><!-- \t\r\n~ --></a>", 3);
        syntax("<!-x", 3, 0);
        syntax("<!-", 3, 0);
        syntax("<!--", 4, 0);
        syntax("<!-->", 5, 0);
        syntax("<!--->", 6, 0);
        syntax("<!--a--b-->", 7, 0);
        syntax("<!--a--->", 7, 0);
        syntax("<!-----><a/>", 6, 0);
        syntax("<!--a-", 6, 0);
        syntax("<!--a--", 7, 0);
        syntax("<!--\u0001-->", 4, 0);
        syntax("<!--a-\u007f-->", 6, 0);
        syntax("<!--a--\u007f-->", 7, 0);
    }

    private static void instructions() {
        Check.whole("<?p?><a/>", 2);
        Check.whole("<?p \t\r\n?><a/>", 2);
        Check.whole("<?p ??><a/>", 2);
        Check.whole("<?p ? > <&--]]>??><a/>", 2);
        Check.whole("<a><?p q?></a>", 3);
        syntax("<? p?>", 2, 0);
        syntax("<??>", 2, 0);
        syntax("<?", 2, 0);
        syntax("<?p", 3, 0);
        syntax("<?p?", 4, 0);
        syntax("<?p?q?>", 4, 0);
        syntax("<?p??>", 4, 0);
        syntax("<?p>", 3, 0);
        syntax("<?p=?>", 3, 0);
        syntax("<?p ", 4, 0);
        syntax("<?p ?", 5, 0);
        syntax("<?p \u0000?>", 4, 0);
    }

    private static void tags() {
        Check.whole("<a />", 1);
        Check.whole("<a \t\r\n></a \t\r\n>", 2);
        Check.whole("<a b=''/>", 2);
        Check.whole("<a b=''\tc=''\n></a>", 4);
        Check.whole("<a\rb\t=\n''/>", 2);
        Check.whole("<a><b><c/></b><d></d></a>", 7);
        syntax("<a", 2, 0);
        syntax("<a ", 3, 0);
        syntax("<a/", 3, 0);
        syntax("<a/ >", 3, 0);
        syntax("<a =''>", 3, 0);
        syntax("<a='b'>", 2, 0);
        syntax("<a b>", 4, 0);
        syntax("<a b", 4, 0);
        syntax("<a b c=''>", 5, 0);
        syntax("<a b/>", 4, 0);
        syntax("<a b=>", 5, 0);
        syntax("<a b=", 5, 0);
        syntax("<a b=c>", 5, 0);
        syntax("<a b==''>", 5, 0);
        syntax("<a b=''c=''>", 7, 1);
        syntax("<a b=''", 7, 1);
        syntax("<a b='' ", 8, 1);
        syntax("<a b=''=", 7, 1);
        syntax("<a <b/>", 3, 0);
        syntax("<a>", 3, 1);
        syntax("<a></", 5, 1);
        syntax("<a></ a>", 5, 1);
        syntax("<a></>", 5, 1);
        syntax("<a></a", 6, 1);
        syntax("<a></a ", 7, 1);
        syntax("<a></a b='' >", 7, 1);
        syntax("<a></a/>", 6, 1);
        syntax("<a><b></b>", 10, 3);
    }

    private static void values() {
        Check.whole("<a b=\"'\" c='\"'/>", 3);
        Check.whole("<a b=' \t\r\n>/=]]>--?>~'/>", 2);
        Check.whole("<a b='&lt;&gt;&amp;&apos;&quot;&#65;&#x41;'/>", 2);
        syntax("<a b='<'/>", 6, 0);
        syntax("<a b='& '/>", 7, 0);
        syntax("<a b='\u0080'/>", 6, 0);
        syntax("<a b='c", 7, 0);
        syntax("<a b='c\"/>", 10, 0);
        syntax("<a b='c'd'/>", 8, 1);
    }

    private static void characters() {
        Check.whole("<a> \t\r\n!\"#$%'()*+,-./0:;=>?@A[\\]^_`a{|}~</a>", 3);
        Check.whole("<a>]]</a>", 3);
        Check.whole("<a>]>]]x>--?>/></a>", 3);
        Check.whole("<a>]]&gt;</a>", 4);
        Check.whole("<a>]<b/>]></a>", 5);
        Check.whole("<a>]]&lt;></a>", 5);
        syntax("<a>]]></a>", 5, 1);
        syntax("<a>x]]></a>", 6, 1);
        syntax("<a>]]]]></a>", 7, 1);
        syntax("<a>]]", 5, 1);
        syntax("<a>x", 4, 1);
        syntax("<a>x<", 5, 2);
        syntax("<a>x< ", 5, 2);
        syntax("<a><!DOCTYPE", 5, 1);
        syntax("<a><!", 5, 1);
    }

    private static void sections() {
        Check.whole("<a><![CDATA[]]></a>", 3);
        Check.whole("<a><![CDATA[]]]></a>", 3);
        Check.whole("<a><![CDATA[]]]]]]></a>", 3);
        Check.whole("<a><![CDATA[<a>&x;]]--?>]>\t<![CDATA[]]></a>", 3);
        Check.whole("<a><![CDATA[]]>></a>", 4);
        Check.whole("<a><![CDATA[x]]>]></a>", 4);
        syntax("<a><![CDATA[]]>]]></a>", 17, 2);
        syntax("<a><![cDATA[]]>", 6, 1);
        syntax("<a><![CDATA []]>", 11, 1);
        syntax("<a><![", 6, 1);
        syntax("<a><![CDATA", 11, 1);
        syntax("<a><![CDATA[", 12, 1);
        syntax("<a><![CDATA[]]", 14, 1);
        syntax("<a><![CDATA[] ]>", 16, 1);
        syntax("<a><![CDATA[x\u001f]]>", 13, 1);
    }

    private static void bytesThatAreNoCharacters() {
        for (int b = 0; b < 256; b++) {
            boolean character = b == 9 || b == 10 || b == 13 || b >= 32 && b <= 126;
            String c = String.valueOf((char) b);
            if (character && b != '<' && b != '&') {
                Check.whole("<a>" + c + "</a>", 3);
                Check.whole("<!-- " + c + " --><a/>", 2);
                Check.whole("<?p " + c + " ?><a/>", 2);
            } else if (!character) {
                syntax("<a>" + c + "</a>", 3, 1);
                syntax("<!--" + c + "--><a/>", 4, 0);
                syntax("<?p " + c + " ?><a/>", 4, 0);
                syntax("<a><![CDATA[" + c + "]]></a>", 12, 1);
                syntax("<a b='" + c + "'/>", 6, 0);
                syntax(c + "<a/>", 0, 0);
                syntax("<a/>" + c, 4, 1);
            }
        }
    }

    private static void referencesBySyntax() {
        syntax("<a>&", 4, 1);
        syntax("<a>&;", 4, 1);
        syntax("<a>& lt;", 4, 1);
        syntax("<a>&lt", 6, 1);
        syntax("<a>&lt ;", 6, 1);
        syntax("<a>&foo ", 7, 1);
        syntax("<a>&foo", 7, 1);
        syntax("<a>&foo<", 7, 1);
        syntax("<a>&#", 5, 1);
        syntax("<a>&#;", 5, 1);
        syntax("<a>&#a;", 5, 1);
        syntax("<a>&#X41;", 5, 1);
        syntax("<a>&#-1;", 5, 1);
        syntax("<a>&#6a;", 6, 1);
        syntax("<a>&#65", 7, 1);
        syntax("<a>&#1 ", 6, 1);
        syntax("<a>&#x", 6, 1);
        syntax("<a>&#x;", 6, 1);
        syntax("<a>&#xg;", 6, 1);
        syntax("<a>&#x4G;", 7, 1);
        syntax("<a>&#x4x;", 7, 1);
        syntax("<a>&#x0", 7, 1);
    }

    private static void wrongEnds() {
        Check.fault("<a></b>", 3, 5, 1);
        Check.fault("<a></A>", 3, 5, 1);
        Check.fault("<ab></a>", 3, 6, 1);
        Check.fault("<a></ab>", 3, 5, 1);
        Check.fault("<a></b", 3, 5, 1);
        Check.fault("<a></b!", 3, 5, 1);
        Check.fault("<a></b ", 3, 5, 1);
        Check.fault("<a></b\u0000", 3, 5, 1);
        Check.fault("<a><b></a></b>", 3, 8, 2);
        Check.fault("<a><b></b></b>", 3, 12, 3);
        Check.fault("<a><b/></b>", 3, 9, 2);
        Check.fault("<a>x</b>", 3, 6, 2);
        Check.whole("<a><a></a></a>", 4);
        Check.whole("<ab><a></a></ab>", 4);
    }

    private static void attributesAgain() {
        Check.fault("<a b='' b=''/>", 4, 8, 1);
        Check.fault("<a b='' c='' b=''/>", 4, 13, 2);
        Check.fault("<a b='' b", 4, 8, 1);
        Check.fault("<a b='' b!", 4, 8, 1);
        Check.fault("<a b='' b/>", 4, 8, 1);
        Check.fault("<a><c b='' b=''", 4, 11, 2);
        Check.whole("<a b='' B='' bb='' a=''/>", 5);
        Check.whole("<a b=''><c b=''/><d b=''></d></a>", 8);
        // Behind the eighth attribute, an old name counts before one too many.
        Check.fault("<a a='' b='' c='' d='' e='' f='' g='' h='' h=''", 4, 43, 8);
        Check.fault("<a a='' b='' c='' d='' e='' f='' g='' h='' a", 4, 43, 8);
    }

    private static void unknownReferences() {
        Check.whole("<a>&lt;&gt;&amp;&apos;&quot;</a>", 7);
        for (String name : new String[] {"foo", "l", "ltt", "LT", "Amp", "am", "amps", "apo", "quo", "nbsp", "g", ":"}) {
            Check.fault("<a>&" + name + ";", 5, 3, 1);
            Check.fault("<a b='x&" + name + ";", 5, 7, 0);
        }
        Check.fault("<a>x&foo;</b>", 5, 4, 2);
    }

    private static void numbersThatAreNoCharacters() {
        for (int number = 0; number < 300; number++) {
            boolean character = number == 9 || number == 10 || number == 13 || number >= 32 && number <= 126;
            String hex = Integer.toHexString(number);
            String[] forms = {"&#" + number + ";", "&#x" + hex + ";", "&#x" + hex.toUpperCase() + ";", "&#00" + number + ";"};
            for (String form : forms) {
                if (character) {
                    Check.whole("<a>" + form + "</a>", 3);
                } else {
                    Check.fault("<a>" + form + "</a>", 8, 3, 1);
                    Check.fault("<a b='" + form + "'/>", 8, 6, 0);
                }
            }
        }
        // As great as these are, they come back to a character where the number is cut to 32 or 64 bits.
        Check.fault("<a>&#4294967361;</a>", 8, 3, 1);
        Check.fault("<a>&#x100000041;</a>", 8, 3, 1);
        Check.fault("<a>&#18446744073709551681;</a>", 8, 3, 1);
        Check.fault("<a>&#x10000000000000041;</a>", 8, 3, 1);
        Check.fault("<a>&#" + "9".repeat(400) + ";</a>", 8, 3, 1);
        Check.fault("<a>&#x1" + "0".repeat(400) + ";</a>", 8, 3, 1);
        Check.whole("<a>&#" + "0".repeat(400) + "65;</a>", 3);
        Check.whole("<a>&#x" + "0".repeat(400) + "7E;</a>", 3);
    }

    private static void reservedInstructions() {
        for (String name : new String[] {"xml", "XML", "Xml", "xMl", "xmL"}) {
            Check.fault("<?" + name + "?><a/>", 11, 2, 0);
            Check.fault("<?" + name + " version='1.0'?><a/>", 11, 2, 0);
            Check.fault("<?" + name, 11, 2, 0);
            Check.fault("<?" + name + "!", 11, 2, 0);
            Check.fault("<a><?" + name + "?></a>", 11, 5, 1);
            Check.fault("<a/> <?" + name + "?>", 11, 7, 1);
        }
        for (String name : new String[] {"xm", "xmll", "xml-a", "xml.", "xml:", "xml1", "_xml", "xnl", "xll", "lmx", "yml", "xmk"}) {
            Check.whole("<?" + name + "?><a/>", 2);
        }
        Check.whole("<xml xml=''/>", 2);
        Check.whole("<?p xml?><a/>", 2);
    }

    private static void tooManyElements() {
        Check.whole("<a>".repeat(20) + "</a>".repeat(20), 40);
        Check.whole("<a>".repeat(19) + "<a/><a></a>" + "</a>".repeat(19), 41);
        Check.fault("<a>".repeat(20) + "<a>", 15, 61, 20);
        Check.fault("<a>".repeat(20) + "<a/>", 15, 61, 20);
        Check.fault("<a>".repeat(20) + "<a", 15, 61, 20);
        Check.fault("<a>".repeat(20) + "<a!", 15, 61, 20);
        Check.fault("<a>".repeat(20) + "</a><a/><a><a/>", 15, 72, 23);
        syntax("<a>".repeat(20) + "<", 61, 20);
        syntax("<a>".repeat(20) + "<!", 62, 20);
        Check.fault("<a>".repeat(20) + "</b>", 3, 62, 20);
    }

    private static void tooManyAttributes() {
        String eight = "<a a='' b='' c='' d='' e='' f='' g='' h=''";
        Check.whole(eight + "/>", 9);
        Check.whole(eight + " ><b" + eight.substring(2) + "/></a>", 19);
        Check.fault(eight + " i=''/>", 15, 43, 8);
        Check.fault(eight + " i", 15, 43, 8);
        Check.fault(eight + " i!", 15, 43, 8);
        syntax(eight + " !", 43, 8);
        syntax(eight + " ", 43, 8);
        syntax(eight + "i", 42, 8);
    }

    private static void tooManyPieces() {
        int end = FULL.length();
        Check.whole(NEARLY_FULL + "</a>", 150);
        syntax(FULL + "<", end + 1, 150);
        Check.fault(FULL + "</a>", 15, end, 150);
        Check.fault(FULL + "</a  >", 15, end, 150);
        Check.fault(FULL + "<c>", 15, end, 150);
        Check.fault(FULL + "<c/>", 15, end, 150);
        Check.fault(FULL + "<c  d=''/>", 15, end + 4, 150);
        Check.fault(FULL + "&lt;", 15, end, 150);
        Check.fault(FULL + "<!---->", 15, end, 150);
        Check.fault(FULL + "<?p?>", 15, end, 150);
        Check.fault(FULL + "<![CDATA[]]>", 15, end, 150);
        Check.fault(NEARLY_FULL + "&lt;xy<", 15, end + 3, 150);
        Check.fault(NEARLY_FULL + "&lt;xy&", 15, end + 3, 150);
        Check.fault(NEARLY_FULL + "&lt;xy\u0001", 15, end + 3, 150);
        syntax(NEARLY_FULL + "&lt;]]>", end + 5, 150);
        Check.fault(NEARLY_FULL + "</a><?p?>", 15, end + 3, 150);
        // Before its end, a piece is not one too many.
        syntax(FULL + "</a", end + 3, 150);
        syntax(FULL + "<c", end + 2, 150);
        syntax(FULL + "<c d='", end + 6, 150);
        syntax(FULL + "&lt", end + 3, 150);
        syntax(FULL + "<!--", end + 4, 150);
        syntax(NEARLY_FULL + "&lt;xy", end + 5, 150);
        Check.fault(FULL + "</b>", 3, end + 2, 150);
        Check.fault(FULL + "&foo;", 5, end, 150);
        Check.fault(FULL + "&#0;", 8, end, 150);
        Check.fault(FULL + "<c d='&foo;'", 5, end + 6, 150);
        Check.fault(FULL + "<?xml?>", 11, end + 2, 150);
    }

    private static void readingEndsTheText() {
        NestedTags x = new NestedTags();
        Check.putText(x, "<a>");
        Check.due("read of the first text", x.read(), -3);
        Check.putText(x, "</a>");
        Check.due("read of the second text", x.read(), -3);
        Check.due("place in the second text", x.place(), 1);
        Check.putText(x, "<a b='");
        Check.due("read inside a value", x.read(), -3);
        Check.putText(x, "<c b=''/>");
        Check.due("read behind it", x.read(), 2);
        Check.due("read of no text", x.read(), -3);
        Check.due("place in no text", x.place(), 0);
        Check.due("count(0) of no text", x.count(0), 0);
    }
}
