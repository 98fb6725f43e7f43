/** Terms: the PRODUCTIONS, each with what it allows, and the first byte with which no text goes on. */
public final class ProductionTermsTest {
    public static void main(String[] args) {
        Check.run(ProductionTermsTest.class);
    }

    // PRODUCTIONS ('' are the characters themselves; S one or more blanks, S? any number; [ ] may be left out; * any
    // number of; | or)

    static void quotedSignsAreTheCharactersThemselves() {
        Check.whole("<a><![CDATA[]]></a>", 3);
        Check.syntax("<a><![Cdata[]]></a>", 7, 1);
        Check.whole("<a>&#x41;</a>", 3);
        Check.syntax("<a>&#X41;</a>", 5, 1);
        Check.syntax("<a b=''\\>", 7, 1);
        Check.syntax("<!==a==>", 2, 0);
    }

    static void blanksThatMustBeAreOneOrMore() {
        for (String blanks : new String[] {" ", "\t", "\n\r", " ".repeat(300)}) {
            Check.whole("<a" + blanks + "b=''/>", 2);
            Check.whole("<?p" + blanks + "q?><a/>", 2);
        }
        Check.syntax("<a b=''c=''/>", 7, 1);
        Check.syntax("<?p\"?><a/>", 3, 0);
    }

    static void blanksThatMayBeAreAnyNumber() {
        for (String blanks : new String[] {"", " ", "\r\n", " ".repeat(100)}) {
            Check.whole("<a b" + blanks + "=''/>", 2);
            Check.whole("<a b=" + blanks + "''/>", 2);
            Check.whole("<a b=''" + blanks + "/>", 2);
            Check.whole("<a" + blanks + "></a" + blanks + ">", 2);
        }
    }

    static void bracketedPartsMayBeLeftOut() {
        Check.whole("<?p?><a/>", 2);
        Check.whole("<?p q?><a/>", 2);
    }

    static void starredPartsAreAnyNumber() {
        for (int many = 0; many <= 8; many++) {
            Check.whole("<?p?>".repeat(many) + "<a/>" + "<!---->".repeat(many), 1 + 2 * many);
            Check.whole("<a>" + "<b/>".repeat(many) + "</a>", 2 + many);
            Check.whole("<a" + " a='' b='' c='' d='' e='' f='' g='' h=''".substring(0, 5 * many) + "/>", 1 + many);
        }
    }

    static void eitherOfTwoPartsMayStandButNotBoth() {
        Check.whole("<a/>", 1);
        Check.whole("<a></a>", 2);
        Check.syntax("<a/></a>", 5, 1);
        Check.syntax("<a>&#65x41;</a>", 7, 1);
    }

    // text: misc* element misc*.

    static void aTextWithoutBytesHasNoElement() {
        Check.syntax("", 0, 0);
    }

    static void aTextOfMiscAloneHasNoElement() {
        Check.syntax(" \t\r\n", 4, 0);
        Check.syntax("<!---->", 7, 1);
        Check.syntax("<?p?>", 5, 1);
        Check.syntax("<!----> <?p?> ", 14, 2);
    }

    static void aTextMayBeOneElementAlone() {
        Check.whole("<a/>", 1);
        Check.whole("<a></a>", 2);
    }

    static void aTextHasNoSecondElement() {
        Check.syntax("<a/><b/>", 5, 1);
        Check.syntax("<a></a><b/>", 8, 2);
        Check.syntax("<a/> <!----><a/>", 13, 2);
    }

    static void aTextHasNoEndTagOutsideOfItsElement() {
        Check.syntax("</a>", 1, 0);
        Check.syntax("<a/></a>", 5, 1);
        Check.syntax("<a></a></a>", 8, 2);
    }

    // misc: comment | instruction | S.

    static void aTextMayHaveAnyMiscRoundItsElement() {
        Check.whole(" \t\r\n<a/> \t\r\n", 1);
        Check.whole("<?p?> <!----><?p?><a/><!----> <?p?>", 6);
        Check.whole("<!----><!----><a></a><?p?><?p?>", 6);
    }

    static void noCharactersReferencesOrSectionsAreMisc() {
        Check.syntax("x<a/>", 0, 0);
        Check.syntax("<a/>x", 4, 1);
        Check.syntax("&lt;<a/>", 0, 0);
        Check.syntax("<a/>&lt;", 4, 1);
        Check.syntax("<![CDATA[]]><a/>", 2, 0);
        Check.syntax("<a/><![CDATA[]]>", 6, 1);
        Check.syntax("<!DOCTYPE a><a/>", 2, 0);
    }

    static void aTextDoesNotEndInsideOfMisc() {
        Check.syntax("<a/><", 5, 1);
        Check.syntax("<a/><!", 6, 1);
        Check.syntax("<a/><!-", 7, 1);
        Check.syntax("<a/><?", 6, 1);
        Check.syntax("<", 1, 0);
        Check.syntax("<!", 2, 0);
    }

    // comment: '<!--', characters, '-->', no '--' in them (nor - before the end).

    static void aCommentMayBeEmpty() {
        Check.whole("<!----><a/>", 2);
    }

    static void aCommentHoldsAnyOtherSigns() {
        Check.whole("<!-- <a b='&lt;]]>?>\" - > --><a/>", 2);
    }

    static void aCommentHoldsNoTwoDashes() {
        Check.syntax("<!--a--b-->", 7, 0);
        Check.syntax("<!----a-->", 6, 0);
        Check.syntax("<!--a-- -->", 7, 0);
        Check.syntax("<!--a--<", 7, 0);
        Check.syntax("<!--a--\u007f", 7, 0);
    }

    static void aCommentHoldsNoDashBeforeItsEnd() {
        Check.syntax("<!--a--->", 7, 0);
        Check.syntax("<!----->", 6, 0);
        Check.syntax("<!------>", 6, 0);
    }

    static void aCommentMayHoldSingleDashes() {
        Check.whole("<!---a-b--><a/>", 2);
        Check.whole("<!--- - - --><a/>", 2);
    }

    static void theDashesOfACommentsBeginDoNotEndIt() {
        Check.whole("<!-->--><a/>", 2);
        Check.whole("<!--->--><a/>", 2);
        Check.syntax("<!-->", 5, 0);
        Check.syntax("<!--->", 6, 0);
    }

    static void aCommentBeginsWithTwoDashes() {
        Check.syntax("<!-", 3, 0);
        Check.syntax("<!-x", 3, 0);
        Check.syntax("<!->", 3, 0);
        Check.syntax("<! -->", 2, 0);
    }

    static void aCommentDoesNotEndWithTheText() {
        Check.syntax("<!--", 4, 0);
        Check.syntax("<!--a", 5, 0);
        Check.syntax("<!--a-", 6, 0);
        Check.syntax("<!--a--", 7, 0);
    }

    // instruction: '<?' name [S, characters without '?>'] '?>'

    static void anInstructionMayBeANameAlone() {
        Check.whole("<?p?><a/>", 2);
    }

    static void anInstructionMayHoldBlanksAlone() {
        Check.whole("<?p ?><a/>", 2);
        Check.whole("<?p \t\r\n?><a/>", 2);
    }

    static void anInstructionHoldsAnyOtherSigns() {
        Check.whole("<?p <a b='&lt;]]>--><?p \" ? > ?><a/>", 2);
    }

    static void anInstructionEndsAtTheFirstEnd() {
        Check.whole("<?p ??><a/>", 2);
        Check.whole("<?p ????><a/>", 2);
        Check.syntax("<?p ?>?>", 6, 1);
    }

    static void anInstructionHasBlanksBehindItsName() {
        Check.syntax("<?p?q?>", 4, 0);
        Check.syntax("<?p??>", 4, 0);
        Check.syntax("<?p? >", 4, 0);
        Check.syntax("<?p>", 3, 0);
        Check.syntax("<?p=?>", 3, 0);
    }

    static void anInstructionHasItsNameAtOnce() {
        Check.syntax("<? p?>", 2, 0);
        Check.syntax("<??>", 2, 0);
        Check.syntax("< ?p?>", 1, 0);
    }

    static void anInstructionDoesNotEndWithTheText() {
        Check.syntax("<?", 2, 0);
        Check.syntax("<?p", 3, 0);
        Check.syntax("<?p?", 4, 0);
        Check.syntax("<?p ", 4, 0);
        Check.syntax("<?p q", 5, 0);
        Check.syntax("<?p ?", 5, 0);
    }

    // element: '<' name (S name S? '=' S? value)* S? ('/>' | '>' content '</' name S? '>').

    static void anElementHasItsNameAtOnce() {
        Check.syntax("< a/>", 1, 0);
        Check.syntax("<<a/>", 1, 0);
        Check.syntax("<a></ a>", 5, 1);
        Check.syntax("<a>< /a>", 4, 1);
    }

    static void anAttributeHasBlanksBeforeIt() {
        Check.whole("<a b=''\tc=''\nd=''/>", 4);
        Check.whole("<a  b='' \r c=''/>", 3);
        Check.syntax("<a b=''c=''>", 7, 1);
        Check.syntax("<a b=\"\"c=''>", 7, 1);
        Check.syntax("<a b='c'd'/>", 8, 1);
    }

    static void anAttributeMayHaveBlanksRoundItsEqualsSign() {
        Check.whole("<a b=''/>", 2);
        Check.whole("<a b =''/>", 2);
        Check.whole("<a b= ''/>", 2);
        Check.whole("<a b \t=\n\r ''/>", 2);
    }

    static void anAttributeHasOneEqualsSignAndAValue() {
        Check.syntax("<a b>", 4, 0);
        Check.syntax("<a b/>", 4, 0);
        Check.syntax("<a b c=''>", 5, 0);
        Check.syntax("<a b=>", 5, 0);
        Check.syntax("<a b=c>", 5, 0);
        Check.syntax("<a b==''>", 5, 0);
        Check.syntax("<a b''>", 4, 0);
        Check.syntax("<a ='b'>", 3, 0);
        Check.syntax("<a='b'>", 2, 0);
    }

    static void aTagMayHaveBlanksBeforeItsEnd() {
        Check.whole("<a />", 1);
        Check.whole("<a \t\r\n></a>", 2);
        Check.whole("<a b='' />", 2);
        Check.whole("<a b='' ></a>", 3);
    }

    static void anEmptyTagHasItsEndInOne() {
        Check.syntax("<a/ >", 3, 0);
        Check.syntax("<a//>", 3, 0);
        Check.syntax("<a/b>", 3, 0);
        Check.syntax("<a / >", 4, 0);
    }

    static void anEndTagMayHaveBlanksBehindItsName() {
        Check.whole("<a></a \t\r\n>", 2);
    }

    static void anEndTagHasNothingElse() {
        Check.syntax("<a></a b=''>", 7, 1);
        Check.syntax("<a></a/>", 6, 1);
        Check.syntax("<a></a />", 7, 1);
        Check.syntax("<a></a<", 6, 1);
    }

    static void anElementHasItsEndTag() {
        Check.syntax("<a>", 3, 1);
        Check.syntax("<a><b></b>", 10, 3);
        Check.syntax("<a><b/>", 7, 2);
        Check.syntax("<a><a></a>", 10, 3);
    }

    static void tagsDoNotEndWithTheText() {
        Check.syntax("<a", 2, 0);
        Check.syntax("<a ", 3, 0);
        Check.syntax("<a/", 3, 0);
        Check.syntax("<a b", 4, 0);
        Check.syntax("<a b ", 5, 0);
        Check.syntax("<a b=", 5, 0);
        Check.syntax("<a b= ", 6, 0);
        Check.syntax("<a b=''", 7, 1);
        Check.syntax("<a b='' ", 8, 1);
        Check.syntax("<a><", 4, 1);
        Check.syntax("<a></", 5, 1);
        Check.syntax("<a></a", 6, 1);
        Check.syntax("<a></a ", 7, 1);
    }

    static void tagsDoNotStandInsideOfTags() {
        Check.syntax("<a <b/>", 3, 0);
        Check.syntax("<a<b/>", 2, 0);
        Check.syntax("<a <!---->>", 3, 0);
        Check.syntax("<a &lt;>", 3, 0);
    }

    static void elementsStandInOneAnother() {
        Check.whole("<a><b><c/></b><d></d></a>", 7);
        Check.whole("<a><a><a></a></a></a>", 6);
    }

    // value: characters but < & and the quote, and references, in " " or ' '.

    static void aValueMayBeEmpty() {
        Check.whole("<a b='' c=\"\"/>", 3);
    }

    static void aValueMayHoldTheOtherQuote() {
        Check.whole("<a b=\"'\" c='\"'/>", 3);
    }

    static void aValueEndsAtItsQuoteAlone() {
        Check.syntax("<a b='c\"/>", 10, 0);
        Check.syntax("<a b=\"c'/>", 10, 0);
        Check.syntax("<a b='''/>", 7, 1);
        Check.syntax("<a b=\"\"\"/>", 7, 1);
    }

    static void aValueHoldsNoTag() {
        Check.syntax("<a b='<'/>", 6, 0);
        Check.syntax("<a b=\"c<", 7, 0);
    }

    static void aValueHoldsAnyOtherSigns() {
        Check.whole("<a b=' \t\r\n>/=]]>--?>~;#'/>", 2);
    }

    static void aValueMayHoldReferences() {
        Check.whole("<a b='&lt;&gt;&amp;&apos;&quot;&#65;&#x41;'/>", 2);
        Check.whole("<a b=\"x&lt;y&#34;\"/>", 2);
    }

    static void aValueHoldsNoOtherAmpersand() {
        Check.syntax("<a b='& '/>", 7, 0);
        Check.syntax("<a b='&'/>", 7, 0);
        Check.syntax("<a b='&lt'/>", 9, 0);
        Check.syntax("<a b='&#;'/>", 8, 0);
        Check.syntax("<a b='&#x;'/>", 9, 0);
        Check.syntax("<a b='&&lt;'/>", 7, 0);
    }

    static void aValueDoesNotEndWithTheText() {
        Check.syntax("<a b='", 6, 0);
        Check.syntax("<a b='c", 7, 0);
        Check.syntax("<a b='&lt;", 10, 0);
    }

    // reference: '&' name ';' | '&#' one or more digits ';' | '&#x' one or more digits, a .. f, A .. F ';'

    static void aReferenceHasANameAndItsEnd() {
        Check.whole("<a>&lt;</a>", 3);
        Check.syntax("<a>&;", 4, 1);
        Check.syntax("<a>& lt;", 4, 1);
        Check.syntax("<a>&lt ;", 6, 1);
        Check.syntax("<a>&lt</a>", 6, 1);
        Check.syntax("<a>&lt&gt;", 6, 1);
    }

    static void aNumberHasOneDigitOrMore() {
        Check.whole("<a>&#9;</a>", 3);
        Check.whole("<a>&#0000009;</a>", 3);
        Check.syntax("<a>&#;", 5, 1);
        Check.syntax("<a>&# 9;", 5, 1);
        Check.syntax("<a>&#-9;", 5, 1);
        Check.syntax("<a>&#+9;", 5, 1);
    }

    static void aNumberHasDigitsAlone() {
        Check.whole("<a>&#50;&#49;&#67;&#38;</a>", 6);
        Check.syntax("<a>&#a;", 5, 1);
        Check.syntax("<a>&#6a;", 6, 1);
        Check.syntax("<a>&#6x5;", 6, 1);
        Check.syntax("<a>&#/;", 5, 1);
        Check.syntax("<a>&#:;", 5, 1);
        Check.syntax("<a>&#6 ;", 6, 1);
    }

    static void aHexNumberHasOneDigitOrMore() {
        Check.whole("<a>&#x9;&#xa;&#xD;</a>", 5);
        Check.syntax("<a>&#x;", 6, 1);
        Check.syntax("<a>&#x ", 6, 1);
        Check.syntax("<a>&#xx9;", 6, 1);
    }

    static void aHexNumberHasDigitsAndSixLetters() {
        Check.whole("<a>&#x2a;&#x2f;&#x2A;&#x2F;&#x20;&#x29;</a>", 8);
        for (char b : "g`G@/:x ".toCharArray()) {
            Check.syntax("<a>&#x" + b + ";", 6, 1);
            Check.syntax("<a>&#x4" + b + ";", 7, 1);
        }
    }

    static void aHexNumberHasASmallX() {
        Check.syntax("<a>&#X41;", 5, 1);
        Check.syntax("<a>&x41 ", 7, 1);
    }

    static void aReferenceDoesNotEndWithTheText() {
        Check.syntax("<a>&", 4, 1);
        Check.syntax("<a>&lt", 6, 1);
        Check.syntax("<a>&#", 5, 1);
        Check.syntax("<a>&#65", 7, 1);
        Check.syntax("<a>&#x", 6, 1);
        Check.syntax("<a>&#x41", 8, 1);
    }

    // content: (characters but < and &, without ']]>' | element | reference | '<![CDATA[' .. | instruction | comment)*

    static void contentMayBeEmpty() {
        Check.whole("<a></a>", 2);
    }

    static void contentMayHoldAllItsPartsInAnyOrder() {
        Check.whole("<a>x<b/>&lt;<![CDATA[]]><?p?><!----></a>", 8);
        Check.whole("<a><!----><?p?><![CDATA[]]>&lt;<b/>x</a>", 8);
        Check.whole("<a><![CDATA[]]><![CDATA[]]>&lt;&lt;<b/><b/></a>", 8);
    }

    static void contentHoldsAnyOtherSigns() {
        Check.whole("<a> \t\r\n!\"#$%'()*+,-./0:;=>?@A[\\]^_`a{|}~</a>", 3);
        Check.whole("<a>--?>/>-->;</a>", 3);
    }

    static void charactersHoldNoSectionEnd() {
        Check.syntax("<a>]]></a>", 5, 1);
        Check.syntax("<a>x]]></a>", 6, 1);
        Check.syntax("<a>]]]></a>", 6, 1);
        Check.syntax("<a>]]]]></a>", 7, 1);
        Check.syntax("<a>]>]]>", 7, 1);
        Check.syntax("<a><![CDATA[]]>]]></a>", 17, 2);
        Check.syntax("<a>&lt;]]>", 9, 2);
        Check.syntax("<a><b>]]>", 8, 2);
    }

    static void charactersMayHoldPartsOfASectionEnd() {
        Check.whole("<a>]]</a>", 3);
        Check.whole("<a>]></a>", 3);
        Check.whole("<a>></a>", 3);
        Check.whole("<a>]] >]x>]]x></a>", 3);
        Check.whole("<a><![CDATA[]]>></a>", 4);
        Check.whole("<a><![CDATA[x]]>]></a>", 4);
    }

    static void aSectionEndInPartsIsNone() {
        Check.whole("<a>]]<!---->></a>", 5);
        Check.whole("<a>]<b/>]></a>", 5);
        Check.whole("<a>]]&lt;></a>", 5);
        Check.whole("<a>]]&gt;</a>", 4);
    }

    static void aSectionMayBeEmpty() {
        Check.whole("<a><![CDATA[]]></a>", 3);
    }

    static void aSectionEndsAtTheFirstEnd() {
        Check.whole("<a><![CDATA[]]]></a>", 3);
        Check.whole("<a><![CDATA[]]]]]]></a>", 3);
        Check.whole("<a><![CDATA[]>] ]>]]></a>", 3);
        Check.whole("<a><![CDATA[]]x>]]></a>", 3);
    }

    static void aSectionHoldsAnyOtherSigns() {
        Check.whole("<a><![CDATA[<a>&x;&--?>-->\t<![CDATA[]]></a>", 3);
    }

    static void aSectionBeginsWithItsWord() {
        Check.syntax("<a><![cDATA[]]>", 6, 1);
        Check.syntax("<a><![CDATa[]]>", 10, 1);
        Check.syntax("<a><![CDATA []]>", 11, 1);
        Check.syntax("<a><![ CDATA[]]>", 6, 1);
        Check.syntax("<a><! [CDATA[]]>", 5, 1);
    }

    static void aSectionDoesNotEndWithTheText() {
        Check.syntax("<a><![", 6, 1);
        Check.syntax("<a><![CDATA", 11, 1);
        Check.syntax("<a><![CDATA[", 12, 1);
        Check.syntax("<a><![CDATA[]", 13, 1);
        Check.syntax("<a><![CDATA[]]", 14, 1);
        Check.syntax("<a><![CDATA[] ]>", 16, 1);
    }

    static void contentHoldsNoOtherTags() {
        Check.syntax("<a><!DOCTYPE", 5, 1);
        Check.syntax("<a><!", 5, 1);
        Check.syntax("<a>< ", 4, 1);
        Check.syntax("<a><<", 4, 1);
        Check.syntax("<a><>", 4, 1);
        Check.syntax("<a><&", 4, 1);
        Check.syntax("<a>x<", 5, 2);
    }
}
