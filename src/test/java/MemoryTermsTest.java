import java.lang.reflect.Field;
import java.lang.reflect.Modifier;

/** Terms: all memory is the class's own, and a refused call changes nothing; and how long an object is used. */
public final class MemoryTermsTest {
    public static void main(String[] args) {
        Check.run(MemoryTermsTest.class);
    }

    // All memory is the class's own.

    static void objectsShareNothing() {
        NestedTags first = Check.read("<a b=''>c</a>");
        Check.putText(first, "<c");
        String before = stateOf(first);
        NestedTags second = new NestedTags();
        Check.due("state of a second object", stateOf(second), stateOf(new NestedTags()));
        Check.putText(second, "<zzzz zz='' yy=''/>");
        second.read();
        Check.putText(second, "<!");
        Check.due("state of the first object", stateOf(first), before);
        Check.putText(first, "/>");
        Check.due("read of the first object's next text", first.read(), 1);
    }

    static void objectsTakeTurns() {
        NestedTags first = new NestedTags();
        NestedTags second = new NestedTags();
        Check.putText(first, "<a><b c='");
        Check.putText(second, "<z>");
        Check.putText(first, "'/></a>");
        Check.putText(second, "</y>");
        Check.due("read of the first", first.read(), 4);
        Check.due("read of the second", second.read(), -4);
        Check.due("place in the first", first.place(), -1);
        Check.due("place in the second", second.place(), 5);
        Check.due("pieces of the first", Check.piecesOf(first), "0:0-3@0 3:6-10@1 2:3-12@1 1:12-16@1");
        Check.due("pieces of the second", Check.piecesOf(second), "0:0-3@0");
    }

    static void noFieldIsSharedOrOfAnotherClass() {
        fieldsOf(NestedTags.class);
        for (Class<?> inside : NestedTags.class.getDeclaredClasses()) {
            fieldsOf(inside);
        }
    }

    private static void fieldsOf(Class<?> owner) {
        for (Field field : owner.getDeclaredFields()) {
            int modifiers = field.getModifiers();
            Class<?> type = field.getType();
            Class<?> element = type.isArray() ? type.getComponentType() : type;
            if (field.isSynthetic()) {
                continue;
            }
            if (Modifier.isStatic(modifiers)) {
                Check.due(field + " is a constant", Modifier.isFinal(modifiers) && type.isPrimitive(), true);
            } else {
                boolean own = element.isPrimitive() || element.getDeclaringClass() == NestedTags.class;
                Check.due(field + " is the class's own", own, true);
            }
        }
    }

    // A call that is refused changes nothing.

    static void aPutOfNoBytesOrOfTooManyChangesNothing() {
        NestedTags x = Check.read("<a b=''>c</d>");
        Check.putText(x, "<b>");
        String before = stateOf(x);
        for (int n : new int[] {0, 9, -1, Integer.MAX_VALUE, Integer.MIN_VALUE}) {
            Check.due("put(1, " + n + ")", x.put(1L, n), false);
            Check.due("state behind it", stateOf(x), before);
        }
        Check.putText(x, "</b>");
        Check.due("read", x.read(), 2);
        Check.due("byteOf(3)", x.byteOf(3), '<');
    }

    static void aPutBeyondTheLimitChangesNothing() {
        NestedTags x = Check.read("<a b=''>c</d>");
        Check.putText(x, "<b/>" + " ".repeat(493));
        String before = stateOf(x);
        for (int n = 4; n <= 8; n++) {
            Check.due("put(-1, " + n + ")", x.put(-1L, n), false);
            Check.due("state behind it", stateOf(x), before);
        }
        Check.due("put of the last three", x.put(0x202020L, 3), true);
        Check.due("read", x.read(), 1);
        Check.due("byteOf(499)", x.byteOf(499), ' ');
    }

    static void questionsWithoutAnAnswerChangeNothing() {
        NestedTags x = Check.read("<a b=''>c</d>");
        Check.putText(x, "<b");
        String before = stateOf(x);
        for (int wrong : new int[] {-1, 500, Integer.MAX_VALUE, Integer.MIN_VALUE}) {
            Check.due("piece(" + wrong + ", 0)", x.piece(wrong, 0), -1);
            Check.due("piece(0, " + wrong + ")", x.piece(0, wrong), -1);
            Check.due("piece(" + wrong + ", " + wrong + ")", x.piece(wrong, wrong), -1);
            Check.due("byteOf(" + wrong + ")", x.byteOf(wrong), -1);
            Check.due("count(" + wrong + ")", x.count(wrong), -1);
            Check.due("state behind them", stateOf(x), before);
        }
    }

    // An object is used for at most 512 calls after it has been made.

    static void fullTextsTo512Calls() {
        NestedTags x = new NestedTags();
        int calls = 0;
        for (int text = 0; text < 7; text++) {
            String all = "<" + "abcdefg".charAt(text) + ">" + "x".repeat(491 - text) + "&#65;<";
            Check.putText(x, all + " ".repeat(500 - all.length()));
            Check.due("read of text " + text, x.read(), -3);
            Check.due("place in text " + text, x.place(), all.length());
            Check.due("count(0) of text " + text, x.count(0), 3);
            Check.due("byteOf(1) of text " + text, x.byteOf(1), "abcdefg".charAt(text));
            Check.due("byteOf(500) of text " + text, x.byteOf(500), -1);
            calls += 63 + 5;
        }
        for (; calls < 511; calls++) {
            Check.due("count(3)", x.count(3), 0);
        }
        Check.due("call 512", x.piece(1, 2), 488);
    }

    static void readingsWithoutATextTo512Calls() {
        NestedTags x = Check.read("<a/>");
        for (int call = 2; call < 512; call++) {
            Check.due("read of no text", x.read(), -3);
        }
        Check.due("call 512", x.place(), 0);
    }

    /** What later calls answer is free, but none of them may throw. */
    static void laterCallsEndToo() {
        NestedTags x = new NestedTags();
        for (int call = 0; call < 5000; call++) {
            x.put(call % 900 < 70 ? 0x3C613E3C622F3E78L : -1L, call % 10);
            if (call % 100 == 99) {
                x.read();
            }
            x.piece(call % 200, call % 5);
            x.byteOf(call % 600);
        }
        Check.due("count(5)", x.count(5), -1);
    }

    /** Every answer that a call without change can give. */
    private static String stateOf(NestedTags x) {
        StringBuilder all = new StringBuilder().append(x.place());
        for (int what = 0; what <= 4; what++) {
            all.append(' ').append(x.count(what));
        }
        all.append(" / ").append(Check.piecesOf(x)).append(" /");
        for (int i = 0; x.byteOf(i) >= 0; i++) {
            all.append(' ').append(x.byteOf(i));
        }
        return all.toString();
    }
}
