import java.util.ArrayList;
import java.util.LinkedHashSet;
import java.util.List;
import java.util.Set;
import java.util.function.IntPredicate;

/**
 * The document's productions as they stand, and what is left of them behind each byte: where nothing is left, no text
 * goes on. It tells the place of a SYNTAX fault without the program's ways of reading.
 */
final class Productions {
    private static final Rest NOTHING = new Nothing();
    private static final Rest DONE = new Done();
    private static final String BLANKS = "\t\n\r ";
    private static final String LETTERS = "ABCDEFGHIJKLMNOPQRSTUVWXYZabcdefghijklmnopqrstuvwxyz_:";
    private static final String DIGITS = "0123456789";

    private static final Rest BLANK = one(BLANKS);
    private static final Rest S = row(BLANK, star(BLANK));
    private static final Rest MAYBE_S = star(BLANK);
    private static final Rest NAME = row(one(LETTERS), star(one(LETTERS + DIGITS + "-.")));
    private static final Rest COMMENT =
        row(word("<!--"), star(or(but("-"), row(one("-"), but("-")))), word("-->"));
    private static final Rest INSTRUCTION = row(word("<?"), NAME,
        or(word("?>"), row(S, star(or(but("?"), row(one("?"), star(one("?")), but("?>")))), star(one("?")), word("?>"))));
    private static final Rest REFERENCE = or(
        row(one("&"), NAME, one(";")),
        row(word("&#"), one(DIGITS), star(one(DIGITS)), one(";")),
        row(word("&#x"), one(DIGITS + "abcdefABCDEF"), star(one(DIGITS + "abcdefABCDEF")), one(";")));
    private static final Rest VALUE = or(
        row(one("\""), star(or(but("<&\""), REFERENCE)), one("\"")),
        row(one("'"), star(or(but("<&'"), REFERENCE)), one("'")));
    private static final Rest SECTION = row(word("<![CDATA["),
        star(or(but("]"), row(one("]"), but("]")), row(word("]]"), star(one("]")), but("]>")))),
        // The section's last characters may be brackets, or one bracket in front of its end.
        star(one("]")), word("]]>"));

    /** Content by how many brackets stand right before it: two of them take no >. */
    private static final Later CONTENT = new Later();
    private static final Later BEHIND_ONE = new Later();
    private static final Later BEHIND_TWO = new Later();
    private static final Later ELEMENT = new Later();

    static {
        Rest noCharacters = row(or(ELEMENT, REFERENCE, SECTION, INSTRUCTION, COMMENT), CONTENT);
        CONTENT.is = or(DONE, row(but("<&]"), CONTENT), row(one("]"), BEHIND_ONE), noCharacters);
        BEHIND_ONE.is = or(DONE, row(but("<&]"), CONTENT), row(one("]"), BEHIND_TWO), noCharacters);
        BEHIND_TWO.is = or(DONE, row(but("<&]>"), CONTENT), row(one("]"), BEHIND_TWO), noCharacters);
        ELEMENT.is = row(one("<"), NAME, star(row(S, NAME, MAYBE_S, one("="), MAYBE_S, VALUE)), MAYBE_S,
            or(word("/>"), row(one(">"), CONTENT, word("</"), NAME, MAYBE_S, one(">"))));
    }

    private static final Rest MISC = or(COMMENT, INSTRUCTION, S);
    private static final Rest TEXT = row(star(MISC), ELEMENT, star(MISC));

    private Productions() {
    }

    /** Where the text's SYNTAX fault would be; -1 without one. */
    static int syntaxFault(String text) {
        Rest rest = TEXT;
        for (int i = 0; i < text.length(); i++) {
            rest = rest.behind(text.charAt(i));
            if (rest == NOTHING) {
                return i;
            }
        }
        return rest.mayEnd() ? -1 : text.length();
    }

    static boolean isCharacter(int b) {
        return BLANKS.indexOf(b) >= 0 || b >= 32 && b <= 126;
    }

    private interface Rest {
        boolean mayEnd();

        Rest behind(int b);
    }

    private record Nothing() implements Rest {
        @Override public boolean mayEnd() {
            return false;
        }

        @Override public Rest behind(int b) {
            return NOTHING;
        }
    }

    private record Done() implements Rest {
        @Override public boolean mayEnd() {
            return true;
        }

        @Override public Rest behind(int b) {
            return NOTHING;
        }
    }

    private record One(IntPredicate takes) implements Rest {
        @Override public boolean mayEnd() {
            return false;
        }

        @Override public Rest behind(int b) {
            return takes.test(b) ? DONE : NOTHING;
        }
    }

    private record Row(Rest first, Rest then) implements Rest {
        @Override public boolean mayEnd() {
            return first.mayEnd() && then.mayEnd();
        }

        @Override public Rest behind(int b) {
            Rest inFirst = row(first.behind(b), then);
            return first.mayEnd() ? or(inFirst, then.behind(b)) : inFirst;
        }
    }

    private record Or(Set<Rest> parts) implements Rest {
        @Override public boolean mayEnd() {
            return parts.stream().anyMatch(Rest::mayEnd);
        }

        @Override public Rest behind(int b) {
            return or(parts.stream().map(part -> part.behind(b)).toArray(Rest[]::new));
        }
    }

    private record Star(Rest part) implements Rest {
        @Override public boolean mayEnd() {
            return true;
        }

        @Override public Rest behind(int b) {
            return row(part.behind(b), this);
        }
    }

    /** A production that is used before it is told. */
    private static final class Later implements Rest {
        private Rest is;

        @Override public boolean mayEnd() {
            return is.mayEnd();
        }

        @Override public Rest behind(int b) {
            return is.behind(b);
        }
    }

    private static Rest one(String taken) {
        return new One(b -> taken.indexOf(b) >= 0);
    }

    private static Rest but(String refused) {
        return new One(b -> isCharacter(b) && refused.indexOf(b) < 0);
    }

    private static Rest word(String word) {
        List<Rest> all = new ArrayList<>();
        for (char c : word.toCharArray()) {
            all.add(one(String.valueOf(c)));
        }
        return row(all.toArray(new Rest[0]));
    }

    private static Rest star(Rest part) {
        return new Star(part);
    }

    private static Rest row(Rest... parts) {
        Rest all = DONE;
        for (int i = parts.length - 1; i >= 0; i--) {
            if (parts[i] == NOTHING || all == NOTHING) {
                all = NOTHING;
            } else if (all == DONE) {
                all = parts[i];
            } else if (parts[i] != DONE) {
                all = new Row(parts[i], all);
            }
        }
        return all;
    }

    private static Rest or(Rest... parts) {
        Set<Rest> all = new LinkedHashSet<>();
        for (Rest part : parts) {
            if (part instanceof Or inner) {
                all.addAll(inner.parts());
            } else if (part != NOTHING) {
                all.add(part);
            }
        }
        if (all.isEmpty()) {
            return NOTHING;
        }
        return all.size() == 1 ? all.iterator().next() : new Or(all);
    }
}
