/** What the tests share: texts put as bytes, and answers compared with the ones that are due. */
final class Check {
    private static int asked = 0;
    private static int wrong = 0;

    private Check() {
    }

    static void due(String what, long got, long want) {
        asked++;
        if (got != want) {
            wrong++;
            System.out.println(what + " answered " + got + ", due is " + want);
        }
    }

    static void due(String what, boolean got, boolean want) {
        due(what, got ? 1 : 0, want ? 1 : 0);
    }

    static void due(String what, String got, String want) {
        asked++;
        if (!got.equals(want)) {
            wrong++;
            System.out.println(what + " answered " + got + ", due is " + want);
        }
    }

    static void end() {
        System.out.println(asked + " answers, " + wrong + " of them wrong");
        if (wrong != 0 || asked == 0) {
            System.exit(1);
        }
    }

    /** Puts the text's characters (0 to 255) as bytes, eight a call. */
    static void putText(NestedTags x, String text) {
        for (int from = 0; from < text.length(); from += 8) {
            int to = Math.min(text.length(), from + 8);
            long v = 0;
            for (int i = from; i < to; i++) {
                v = v << 8 | text.charAt(i);
            }
            due("put of " + shown(text.substring(from, to)), x.put(v, to - from), true);
        }
    }

    static NestedTags read(String text) {
        NestedTags x = new NestedTags();
        putText(x, text);
        x.read();
        return x;
    }

    /** The text is read with this fault at this place, and this many pieces before it. */
    static void fault(String text, int fault, int place, int pieces) {
        NestedTags x = new NestedTags();
        putText(x, text);
        String name = shown(text);
        due("read of " + name, x.read(), -1 - fault);
        due("place in " + name, x.place(), place);
        due("count(0) of " + name, x.count(0), pieces);
    }

    /** The text is read without fault, and has this many pieces. */
    static void whole(String text, int pieces) {
        NestedTags x = new NestedTags();
        putText(x, text);
        String name = shown(text);
        due("read of " + name, x.read(), pieces);
        due("place in " + name, x.place(), -1);
        due("count(0) of " + name, x.count(0), pieces);
    }

    /** All pieces, each as kind:begin-end@depth. */
    static String piecesOf(NestedTags x) {
        StringBuilder all = new StringBuilder();
        for (int k = 0; k < x.count(0); k++) {
            all.append(k == 0 ? "" : " ").append(x.piece(k, 0)).append(':').append(x.piece(k, 1));
            all.append('-').append(x.piece(k, 2)).append('@').append(x.piece(k, 3));
        }
        return all.toString();
    }

    static void pieces(String text, String want) {
        due("pieces of " + shown(text), piecesOf(read(text)), want);
    }

    static String shown(String text) {
        StringBuilder all = new StringBuilder("'");
        for (char c : text.toCharArray()) {
            if (c >= 32 && c <= 126) {
                all.append(c);
            } else {
                all.append('{').append((int) c).append('}');
            }
        }
        return all.append("'").toString();
    }
}
