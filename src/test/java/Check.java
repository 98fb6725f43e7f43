import java.lang.reflect.Method;
import java.lang.reflect.Modifier;

/** What the tests share: texts put as bytes, and answers compared with the ones that are due. */
final class Check {
    private static int asked = 0;
    private static int wrong = 0;
    private static String running = "";

    private Check() {
    }

    /**
     * Runs each test of the class: its static methods without parameters that are not private. They are found, not
     * listed, so that none is forgotten; one that asks nothing, or throws, is wrong.
     */
    static void run(Class<?> tests) {
        int many = 0;
        for (Method test : tests.getDeclaredMethods()) {
            boolean isTest = Modifier.isStatic(test.getModifiers()) && !Modifier.isPrivate(test.getModifiers())
                && !test.isSynthetic() && test.getParameterCount() == 0;
            if (isTest) {
                many++;
                run(test);
            }
        }
        System.out.println(many + " tests, " + asked + " answers, " + wrong + " of them wrong");
        if (wrong != 0 || many == 0) {
            System.exit(1);
        }
    }

    private static void run(Method test) {
        running = test.getName();
        int askedBefore = asked;
        try {
            test.invoke(null);
        } catch (ReflectiveOperationException e) {
            say("it threw " + (e.getCause() == null ? e : e.getCause()));
        }
        if (asked == askedBefore) {
            say("it asked nothing");
        }
    }

    private static void say(String what) {
        wrong++;
        System.out.println(running + ": " + what);
    }

    static void due(String what, long got, long want) {
        asked++;
        if (got != want) {
            say(what + " answered " + got + ", due is " + want);
        }
    }

    static void due(String what, boolean got, boolean want) {
        due(what, got ? 1 : 0, want ? 1 : 0);
    }

    static void due(String what, String got, String want) {
        asked++;
        if (!got.equals(want)) {
            say(what + " answered " + got + ", due is " + want);
        }
    }

    /** Puts the text's characters (0 to 255) as bytes, eight a call. */
    static void putText(NestedTags x, String text) {
        for (int from = 0; from < text.length(); from += 8) {
            int to = Math.min(text.length(), from + 8);
            long v = 0;
            for (int i = from; i < to; i++) {
                v = v << 8 | text.charAt(i);
            }
            due("put of " + shown(text.substring(from, to)), x.put(v, to - from), true);
        }
    }

    static NestedTags read(String text) {
        NestedTags x = new NestedTags();
        putText(x, text);
        x.read();
        return x;
    }

    /** The text is read with this fault at this place, and this many pieces before it. */
    static void fault(String text, int fault, int place, int pieces) {
        NestedTags x = new NestedTags();
        putText(x, text);
        String name = shown(text);
        due("read of " + name, x.read(), -1 - fault);
        due("place in " + name, x.place(), place);
        due("count(0) of " + name, x.count(0), pieces);
    }

    static void syntax(String text, int place, int pieces) {
        fault(text, 2, place, pieces);
    }

    /** The text is read without fault, and has this many pieces. */
    static void whole(String text, int pieces) {
        NestedTags x = new NestedTags();
        putText(x, text);
        String name = shown(text);
        due("read of " + name, x.read(), pieces);
        due("place in " + name, x.place(), -1);
        due("count(0) of " + name, x.count(0), pieces);
    }

    /** All pieces, each as kind:begin-end@depth. */
    static String piecesOf(NestedTags x) {
        StringBuilder all = new StringBuilder();
        for (int k = 0; k < x.count(0); k++) {
            all.append(k == 0 ? "" : " ").append(x.piece(k, 0)).append(':').append(x.piece(k, 1));
            all.append('-').append(x.piece(k, 2)).append('@').append(x.piece(k, 3));
        }
        return all.toString();
    }

    static void pieces(String text, String want) {
        due("pieces of " + shown(text), piecesOf(read(text)), want);
    }

    static String shown(String text) {
        StringBuilder all = new StringBuilder("'");
        for (char c : text.toCharArray()) {
            if (c >= 32 && c <= 126) {
                all.append(c);
            } else {
                all.append('{').append((int) c).append('}');
            }
        }
        return all.append("'").toString();
    }
}
