import java.util.Random;

/** Many texts, in order and out of it, against what the productions and patterns of the tests themselves ask. */
public final class ManyTextsTest {
    private static final String[] BITS = {
        "<", ">", "/", "/>", "</", "<a", "<b", "</a>", "</b>", "<a>", "<b/>", " ", "\n", "=", "'", "\"", " c=''", " d=\"x\"",
        "&", "&lt;", "&foo;", "&#", "&#65;", "&#x4a;", "&#1;", "&#x;", ";", "#", "x", "xml", "<?", "?>", "?", "<?p", "<?XML",
        "<!--", "-->", "--", "-", "<![CDATA[", "]]>", "]", "<!", "!", "[", "\u0000", "\u007f", "\u00ff", "0", ".", ":"};
    /** A beginning for each place in a text, and for each limit that the next bits may come to. */
    private static final String[] BEGINNINGS = {
        "", "<a", "<a ", "<a c=''", "<a b='", "<a>", "<a>x", "<a><b>", "<a/>", "<!--", "<?p ", "<a><![CDATA[",
        "<a>".repeat(19), "<a>".repeat(20),
        "<a a='' b='' e='' f='' g='' h='' i=''", "<a a='' b='' c='' e='' f='' g='' h='' i=''"};
    private static final String NEARLY_FULL = "<a>" + "x<b/>".repeat(74);
    private static final String[] FULL_BEGINNINGS = {
        NEARLY_FULL, NEARLY_FULL + "x", NEARLY_FULL + "&lt;", NEARLY_FULL + "</a>", NEARLY_FULL + "<c d='"};
    private static final String[] NAMES = {"a", "b", "ab", "A", ":", "_x-1.", "xml"};

    private final Random random = new Random(20261115);
    private final int[] faults = new int[16];

    public static void main(String[] args) {
        Check.run(ManyTextsTest.class);
    }

    static void madeTexts() {
        ManyTextsTest test = new ManyTextsTest();
        for (int i = 0; i < 40_000; i++) {
            test.compare(test.anyText(i));
        }
        for (int fault : new int[] {0, 2, 3, 4, 5, 8, 11, 15}) {
            Check.due("that some texts have fault " + fault, test.faults[fault] >= 40, true);
        }
    }

    static void eachTwoBitsBehindEachBeginning() {
        ManyTextsTest test = new ManyTextsTest();
        for (String beginning : BEGINNINGS) {
            for (String first : BITS) {
                for (String second : BITS) {
                    test.compare(beginning + first + second);
                }
            }
        }
    }

    static void eachBitBehindEachBeginningThatIsNearlyFull() {
        ManyTextsTest test = new ManyTextsTest();
        for (String beginning : FULL_BEGINNINGS) {
            for (String bit : BITS) {
                test.compare(beginning + bit);
                test.compare(beginning + bit + ">");
            }
        }
    }

    private String anyText(int i) {
        StringBuilder text = new StringBuilder();
        if (i % 4 == 0) {
            for (int n = random.nextInt(12); n >= 0; n--) {
                text.append(pick(BITS));
            }
        } else {
            misc(text);
            element(text, i % 50 == 1 ? 30 : 4);
            misc(text);
        }
        for (int n = i % 4 == 1 ? 0 : random.nextInt(3); n > 0; n--) {
            spoil(text);
        }
        text.setLength(Math.min(text.length(), 500));
        return text.toString();
    }

    private void compare(String text) {
        Expected want = new Expected(text);
        faults[want.fault]++;
        // Each object reads a text before, so that what is left of that one would be seen.
        NestedTags x = Check.read(text.length() % 2 == 0 ? "<a><b c='" : "<a b='' c=''>d<e>f</e>&lt;</a>");
        Check.putText(x, text);
        String name = Check.shown(text);
        Check.due("read of " + name, x.read(), want.fault == 0 ? want.pieces.size() : -1 - want.fault);
        Check.due("place in " + name, x.place(), want.place);
        int[] counts = {want.pieces.size(), want.elements, want.mostOpen, 0, want.attributes};
        for (int what = 0; what < counts.length; what++) {
            Check.due("count(" + what + ") of " + name, x.count(what), counts[what]);
        }
        for (int k = 0; k < want.pieces.size(); k++) {
            for (int what = 0; what < 4; what++) {
                Check.due("piece(" + k + ", " + what + ") of " + name, x.piece(k, what), want.pieces.get(k)[what]);
            }
        }
        Check.due("piece behind the last of " + name, x.piece(want.pieces.size(), 0), -1);
        for (int i = 0; i < text.length(); i++) {
            Check.due("byteOf(" + i + ") of " + name, x.byteOf(i), text.charAt(i));
        }
        Check.due("byteOf behind the last of " + name, x.byteOf(text.length()), -1);
    }

    private String pick(String... some) {
        return some[random.nextInt(some.length)];
    }

    private void spoil(StringBuilder text) {
        int where = random.nextInt(text.length() + 1);
        switch (random.nextInt(4)) {
            case 0 -> text.insert(where, pick(BITS));
            case 1 -> text.setLength(where);
            case 2 -> text.delete(where, Math.min(text.length(), where + 1 + random.nextInt(3)));
            default -> text.replace(where, Math.min(text.length(), where + 1), pick(BITS));
        }
    }

    private void misc(StringBuilder text) {
        while (random.nextInt(3) == 0) {
            text.append(pick(" ", "\r\n\t", "<!---->", "<!--a-b -->", "<?p?>", "<?p q??>"));
        }
    }

    private void element(StringBuilder text, int deep) {
        String name = pick(NAMES);
        text.append('<').append(name);
        int attributes = random.nextInt(40) == 0 ? 10 : random.nextInt(3);
        for (int i = 0; i < attributes; i++) {
            String attribute = random.nextInt(20) == 0 ? "x" : "x" + i;
            text.append(pick(" ", "\n ")).append(attribute).append(pick("=", " =", "= "));
            text.append(pick("''", "\"\"", "'\"'", "\"a'&lt;\"", "'&#65;]]>'"));
        }
        text.append(pick("", "", " "));
        if (deep <= 4 && random.nextInt(3) == 0) {
            text.append("/>");
            return;
        }
        text.append('>');
        content(text, deep);
        text.append("</").append(name).append(pick("", "", "\t")).append('>');
    }

    private void content(StringBuilder text, int deep) {
        // A deep text is narrow, and now and then a flat one is broad, to come to each limit.
        int parts = deep > 4 ? 1 : random.nextInt(60) == 0 ? 120 : random.nextInt(5);
        for (int i = 0; i < parts; i++) {
            if (deep > 4 || deep > 0 && random.nextInt(3) == 0) {
                element(text, deep - 1);
            } else {
                text.append(pick("x", "y z", "]]", ">", "&lt;", "&#x7E;", "&#0065;", "<!--c-->", "<?i?>", "<![CDATA[]]]>", "<e/>"));
            }
        }
    }
}
