/** Promise 4: the place of the fault of the last text that was read. */
public final class PlaceTest {
    public static void main(String[] args) {
        Check.run(PlaceTest.class);
    }

    static void noTextWasReadYet() {
        NestedTags x = new NestedTags();
        Check.due("place", x.place(), -1);
        Check.putText(x, "<a></b>");
        Check.due("place before the reading", x.place(), -1);
    }

    static void aTextWithoutAFault() {
        place("<a/>", -1);
        place("<a>x</a>", -1);
    }

    static void theFirstPlace() {
        place("", 0);
        place("x", 0);
        place("\u0000<a/>", 0);
    }

    static void theLastPlace() {
        place(" ".repeat(499) + "x", 499);
        place(" ".repeat(500), 500);
    }

    static void eachFaultHasItsPlace() {
        place("<a><b></a>", 8);
        place("<a bb='' bb=''", 9);
        place("<a>x&foo;", 4);
        place("<a>x&#0;", 4);
        place("<a>x<?xml?>", 6);
        place("<a>".repeat(21), 61);
        place("<a a='' b='' c='' d='' e='' f='' g='' h='' i=''", 43);
        place("<a>" + "x<b/>".repeat(74) + "x<?p?>", 374);
    }

    static void theLastTextThatWasReadCounts() {
        NestedTags x = new NestedTags();
        next(x, "<a>&foo;</a>", 3);
        next(x, "<a/>", -1);
        next(x, "", 0);
        next(x, "<a", 2);
        next(x, "<a/>", -1);
    }

    static void aTextThatWasNotReadYetDoesNotCount() {
        NestedTags x = Check.read("<a");
        Check.putText(x, "<a/>");
        Check.due("place before the reading", x.place(), 2);
        x.read();
        Check.due("place behind the reading", x.place(), -1);
        Check.putText(x, "x");
        Check.due("place before the next reading", x.place(), -1);
    }

    private static void place(String text, int want) {
        next(new NestedTags(), text, want);
    }

    private static void next(NestedTags x, String text, int want) {
        Check.putText(x, text);
        x.read();
        Check.due("place in " + Check.shown(text), x.place(), want);
        Check.due("place asked again", x.place(), want);
    }
}
