import java.util.ArrayList;
import java.util.HashSet;
import java.util.List;
import java.util.Set;
import java.util.regex.Matcher;
import java.util.regex.Pattern;

/**
 * What the document asks for a text. The productions tell where no text goes on; up to there all is in order, so that
 * plain patterns find the pieces and the other faults.
 */
final class Expected {
    private static final String NAME = "([A-Za-z_:][A-Za-z_:0-9.-]*)";
    private static final Pattern COMMENT = Pattern.compile("(?s)<!--.*?-->");
    private static final Pattern INSTRUCTION_NAME = Pattern.compile("<\\?" + NAME);
    private static final Pattern INSTRUCTION = Pattern.compile("(?s)<\\?.*?\\?>");
    private static final Pattern SECTION = Pattern.compile("(?s)<!\\[CDATA\\[.*?]]>");
    private static final Pattern END_NAME = Pattern.compile("</" + NAME);
    private static final Pattern END_TAG = Pattern.compile("</[^>]*>");
    private static final Pattern TAG_NAME = Pattern.compile("<" + NAME);
    private static final Pattern ATTRIBUTE_NAME = Pattern.compile("\\s+" + NAME);
    private static final Pattern TO_VALUE = Pattern.compile("\\s*=\\s*(['\"])");
    private static final Pattern TAG_END = Pattern.compile("\\s*(/?)>");
    private static final Pattern REFERENCE = Pattern.compile("&([^;]*);");
    private static final Pattern CHARACTERS = Pattern.compile("[^<&]+");
    private static final Set<String> KNOWN = Set.of("lt", "gt", "amp", "apos", "quot");

    int fault;
    int place = -1;
    int elements;
    int mostOpen;
    int attributes;
    final List<int[]> pieces = new ArrayList<>();

    private final String text;
    private final int limit;
    private final List<String> open = new ArrayList<>();
    private int at;

    Expected(String text) {
        this.text = text;
        int syntax = Productions.syntaxFault(text);
        limit = syntax < 0 ? text.length() : syntax;
        while (at < limit && item()) {
            continue;
        }
        if (fault == 0 && syntax >= 0) {
            fail(2, syntax);
        } else if (fault == 0 && at < limit) {
            throw new IllegalStateException("a text in order was not read to its end: " + text);
        }
    }

    private Matcher match(Pattern pattern) {
        Matcher m = pattern.matcher(text).region(at, limit);
        return m.lookingAt() ? m : null;
    }

    private boolean fail(int kind, int where) {
        fault = kind;
        place = where;
        return false;
    }

    private boolean add(int kind, int begin, int end) {
        if (pieces.size() == 150) {
            return fail(15, begin);
        }
        pieces.add(new int[] {kind, begin, end, open.size()});
        at = end;
        return true;
    }

    /** The piece that the pattern tells whole, if it stands there whole. */
    private boolean addWhole(int kind, Pattern pattern) {
        Matcher m = match(pattern);
        return m != null && add(kind, at, m.end());
    }

    private boolean item() {
        if (text.startsWith("<!--", at)) {
            return addWhole(7, COMMENT);
        }
        if (text.startsWith("<![CDATA[", at)) {
            return addWhole(6, SECTION);
        }
        Matcher m = match(INSTRUCTION_NAME);
        if (m != null) {
            return m.group(1).equalsIgnoreCase("xml") ? fail(11, at + 2) : addWhole(8, INSTRUCTION);
        }
        m = match(END_NAME);
        if (m != null) {
            return endTag(m.group(1));
        }
        m = match(TAG_NAME);
        if (m != null) {
            return tag(m.group(1), m.end());
        }
        m = match(REFERENCE);
        if (m != null) {
            return reference(m.group(1)) && add(5, at, m.end());
        }
        m = match(CHARACTERS);
        return m != null && characters(m.end());
    }

    private boolean endTag(String name) {
        if (!name.equals(open.get(open.size() - 1))) {
            return fail(3, at + 2);
        }
        if (!addWhole(1, END_TAG)) {
            return false;
        }
        open.remove(open.size() - 1);
        return true;
    }

    private boolean tag(String name, int nameEnd) {
        int begin = at;
        if (open.size() == 20) {
            return fail(15, begin + 1);
        }
        elements++;
        at = nameEnd;
        Set<String> names = new HashSet<>();
        for (Matcher m = match(ATTRIBUTE_NAME); m != null; m = match(ATTRIBUTE_NAME)) {
            if (!attribute(names, m.group(1), m.end())) {
                return false;
            }
        }
        Matcher end = match(TAG_END);
        boolean empty = end != null && end.group(1).equals("/");
        if (end == null || !add(empty ? 2 : 0, begin, end.end())) {
            return false;
        }
        mostOpen = Math.max(mostOpen, open.size() + 1);
        if (!empty) {
            open.add(name);
        }
        return true;
    }

    private boolean attribute(Set<String> names, String name, int nameEnd) {
        int begin = nameEnd - name.length();
        if (!names.add(name)) {
            return fail(4, begin);
        }
        if (names.size() > 8) {
            return fail(15, begin);
        }
        at = nameEnd;
        Matcher m = match(TO_VALUE);
        if (m == null) {
            return false;
        }
        for (at = m.end(); at < limit && text.charAt(at) != m.group(1).charAt(0); ) {
            Matcher r = match(REFERENCE);
            if (text.charAt(at) == '&' && (r == null || !reference(r.group(1)))) {
                return false;
            }
            at = r == null ? at + 1 : r.end();
        }
        if (at == limit || !add(3, begin, at + 1)) {
            return false;
        }
        attributes++;
        return true;
    }

    private boolean reference(String inside) {
        if (!inside.startsWith("#")) {
            return KNOWN.contains(inside) || fail(5, at);
        }
        boolean hex = inside.startsWith("#x");
        java.math.BigInteger number = new java.math.BigInteger(inside.substring(hex ? 2 : 1), hex ? 16 : 10);
        boolean character = number.bitLength() < 31 && Productions.isCharacter(number.intValue());
        return character || fail(8, at);
    }

    private boolean characters(int end) {
        if (open.isEmpty()) {
            at = end;
            return true;
        }
        boolean ended = end < limit || limit < text.length() && !Productions.isCharacter(text.charAt(limit));
        return ended && add(4, at, end);
    }
}
