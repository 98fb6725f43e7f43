/** Texts with tags in one another: read from left to right, in pieces with their places, up to the first fault. */
public final class NestedTags {
    private static final int TEXT_LIMIT = 500;
    private static final int PUT_LIMIT = 8;
    private static final int PIECE_LIMIT = 150;
    private static final int OPEN_LIMIT = 20;
    private static final int ATTRIBUTE_LIMIT = 8;

    private static final int NO_FAULT = 0;
    private static final int SYNTAX = 2;
    private static final int WRONG_END = 3;
    private static final int ATTRIBUTE_AGAIN = 4;
    private static final int UNKNOWN_REFERENCE = 5;
    private static final int NO_CHARACTER = 8;
    private static final int RESERVED_INSTRUCTION = 11;
    private static final int TOO_MANY = 15;

    private static final int START = 0;
    private static final int END = 1;
    private static final int EMPTY = 2;
    private static final int ATTRIBUTE = 3;
    private static final int CHARACTERS = 4;
    private static final int REFERENCE = 5;
    private static final int SECTION = 6;
    private static final int COMMENT = 7;
    private static final int INSTRUCTION = 8;

    /** The answer where there is nothing to tell, and the byte beyond the text's end. */
    private static final int NONE = -1;

    /** Above every character and far below the overflow of a next digit. */
    private static final int NUMBER_LIMIT = 1000;

    /** The text that was not read yet; its row and the cursor's change places with every reading. */
    private int[] coming;
    private int comingLength;

    private final Cursor cursor;
    private final Pieces pieces;
    private final Names openElements;
    private final Names tagAttributes;
    private int elements;
    private int mostOpen;

    private boolean inTag;
    private int tagBegin;
    private int tagNameBegin;
    private int tagNameEnd;
    private int attributeBegin;
    /** The quote that ends the value which is being read; NONE outside of values. */
    private int quote;

    public NestedTags() {
        coming = new int[TEXT_LIMIT];
        cursor = new Cursor();
        pieces = new Pieces();
        openElements = new Names(OPEN_LIMIT);
        tagAttributes = new Names(ATTRIBUTE_LIMIT);
        quote = NONE;
    }

    public boolean put(long v, int n) {
        if (n < 1 || n > PUT_LIMIT || comingLength > TEXT_LIMIT - n) {
            return false;
        }
        for (int i = n - 1; i >= 0; i--) {
            if (comingLength >= 0 && comingLength < coming.length) {
                coming[comingLength] = (int) (v >>> (8 * i)) & 255;
                comingLength++;
            }
        }
        return true;
    }

    public int read() {
        beginText();
        // Every round reads a byte at least, or finds a fault.
        for (int round = 0; round < TEXT_LIMIT && cursor.goesOn(); round++) {
            if (quote != NONE) {
                readInValue();
            } else if (inTag) {
                readInTag();
            } else {
                readBetween();
            }
        }
        endText();
        return cursor.fault == NO_FAULT ? pieces.size : -1 - cursor.fault;
    }

    public int place() {
        return cursor.faultPlace;
    }

    public int piece(int k, int what) {
        return pieces.tell(k, what);
    }

    public int byteOf(int i) {
        return cursor.byteAt(i);
    }

    public int count(int what) {
        switch (what) {
            case 0:
                return pieces.size;
            case 1:
                return elements;
            case 2:
                return mostOpen;
            case 3:
                return comingLength;
            case 4:
                return pieces.attributes;
            default:
                return NONE;
        }
    }

    private void beginText() {
        coming = cursor.begin(coming, comingLength);
        comingLength = 0;
        pieces.clear();
        openElements.clear();
        tagAttributes.clear();
        elements = 0;
        mostOpen = 0;
        inTag = false;
        quote = NONE;
    }

    private void endText() {
        boolean whole = elements > 0 && openElements.size == 0 && !inTag;
        if (!whole) {
            cursor.failHere();
        }
    }

    private void readBetween() {
        int b = cursor.here();
        if (b == '<') {
            readMarkup();
        } else if (openElements.size == 0) {
            if (!cursor.passBlanks()) {
                cursor.failHere();
            }
        } else if (b == '&') {
            readContentReference();
        } else {
            readCharacters();
        }
    }

    private void readMarkup() {
        int second = cursor.byteAt(cursor.at + 1);
        int third = cursor.byteAt(cursor.at + 2);
        boolean inContent = openElements.size > 0;
        if (second == '?') {
            readInstruction();
        } else if (second == '!' && third == '-') {
            readComment();
        } else if (second == '!' && third == '[' && inContent) {
            readSection();
        } else if (second == '!') {
            cursor.fail(SYNTAX, cursor.at + 2);
        } else if (second == '/' && inContent) {
            readEndTag();
        } else if (isNameStart(second) && (inContent || elements == 0)) {
            readTagName();
        } else {
            cursor.fail(SYNTAX, cursor.at + 1);
        }
    }

    private void readInstruction() {
        int begin = cursor.at;
        int nameBegin = begin + 2;
        if (!cursor.expect("<?") || !cursor.passName()) {
            return;
        }
        if (isReserved(nameBegin, cursor.at)) {
            cursor.fail(RESERVED_INSTRUCTION, nameBegin);
            return;
        }
        boolean ended = isBlank(cursor.here()) ? cursor.passUntil("?>") : cursor.expect("?>");
        if (ended) {
            addPiece(INSTRUCTION, begin);
        }
    }

    private void readComment() {
        int begin = cursor.at;
        if (cursor.expect("<!--") && cursor.passUntil("--") && cursor.expect(">")) {
            addPiece(COMMENT, begin);
        }
    }

    private void readSection() {
        int begin = cursor.at;
        if (cursor.expect("<![CDATA[") && cursor.passUntil("]]>")) {
            addPiece(SECTION, begin);
        }
    }

    /**
     * The characters end where < or &, or a byte that is no character at all, stands behind them. Where they hold
     * ]]>, or stand at the text's end, they did not end, and are no piece.
     */
    private void readCharacters() {
        int begin = cursor.at;
        while (cursor.at < cursor.length && isContentCharacter(cursor.here())) {
            boolean behindBrackets = cursor.at >= begin + 2 && cursor.standsAt("]]", cursor.at - 2);
            if (behindBrackets && cursor.here() == '>') {
                cursor.failHere();
                return;
            }
            cursor.at++;
        }
        if (cursor.at == begin) {
            cursor.failHere();
        } else if (cursor.at < cursor.length) {
            addPiece(CHARACTERS, begin);
        }
    }

    private void readContentReference() {
        int begin = cursor.at;
        if (readReference()) {
            addPiece(REFERENCE, begin);
        }
    }

    private boolean readReference() {
        int begin = cursor.at;
        if (!cursor.expect("&")) {
            return false;
        }
        if (cursor.here() == '#') {
            cursor.at++;
            return readNumber(begin);
        }
        int nameBegin = cursor.at;
        if (!cursor.passName()) {
            return false;
        }
        boolean known = isKnownReference(nameBegin, cursor.at);
        if (!cursor.expect(";")) {
            return false;
        }
        return known || cursor.fail(UNKNOWN_REFERENCE, begin);
    }

    private boolean readNumber(int begin) {
        int base = 10;
        if (cursor.here() == 'x') {
            base = 16;
            cursor.at++;
        }
        int digitsBegin = cursor.at;
        int number = cursor.passNumber(base);
        if (cursor.at == digitsBegin) {
            return cursor.failHere();
        }
        if (!cursor.expect(";")) {
            return false;
        }
        return isCharacter(number) || cursor.fail(NO_CHARACTER, begin);
    }

    private void readEndTag() {
        int begin = cursor.at;
        int nameBegin = begin + 2;
        if (!cursor.expect("</") || !cursor.passName()) {
            return;
        }
        if (!openElements.isLast(cursor, nameBegin, cursor.at)) {
            cursor.fail(WRONG_END, nameBegin);
            return;
        }
        cursor.passBlanks();
        if (cursor.expect(">") && addPiece(END, begin)) {
            openElements.dropLast();
        }
    }

    private void readTagName() {
        tagBegin = cursor.at;
        tagNameBegin = tagBegin + 1;
        if (!cursor.expect("<") || !cursor.passName()) {
            return;
        }
        tagNameEnd = cursor.at;
        if (openElements.isFull()) {
            cursor.fail(TOO_MANY, tagNameBegin);
            return;
        }
        elements++;
        tagAttributes.clear();
        inTag = true;
    }

    private void readInTag() {
        boolean behindBlanks = cursor.passBlanks();
        int b = cursor.here();
        if (behindBlanks && isNameStart(b)) {
            readAttributeName();
        } else if (b == '>') {
            endStartTag();
        } else {
            endEmptyTag();
        }
    }

    private void endStartTag() {
        if (cursor.expect(">") && addPiece(START, tagBegin)) {
            mostOpen = Math.max(mostOpen, openElements.size + 1);
            openElements.add(tagNameBegin, tagNameEnd);
            inTag = false;
        }
    }

    private void endEmptyTag() {
        if (cursor.expect("/>") && addPiece(EMPTY, tagBegin)) {
            mostOpen = Math.max(mostOpen, openElements.size + 1);
            inTag = false;
        }
    }

    private void readAttributeName() {
        attributeBegin = cursor.at;
        if (!cursor.passName()) {
            return;
        }
        if (tagAttributes.has(cursor, attributeBegin, cursor.at)) {
            cursor.fail(ATTRIBUTE_AGAIN, attributeBegin);
            return;
        }
        if (tagAttributes.isFull()) {
            cursor.fail(TOO_MANY, attributeBegin);
            return;
        }
        tagAttributes.add(attributeBegin, cursor.at);
        readToValue();
    }

    private void readToValue() {
        cursor.passBlanks();
        if (!cursor.expect("=")) {
            return;
        }
        cursor.passBlanks();
        int b = cursor.here();
        if (b != '"' && b != '\'') {
            cursor.failHere();
            return;
        }
        quote = b;
        cursor.at++;
    }

    private void readInValue() {
        int b = cursor.here();
        if (b == quote) {
            cursor.at++;
            quote = NONE;
            addPiece(ATTRIBUTE, attributeBegin);
        } else if (b == '&') {
            readReference();
        } else if (isContentCharacter(b)) {
            cursor.at++;
        } else {
            cursor.failHere();
        }
    }

    /** Its depth is the elements open now for every kind: a tag opens its element, or closes it, only behind itself. */
    private boolean addPiece(int kind, int begin) {
        return pieces.add(kind, begin, cursor.at, openElements.size) || cursor.fail(TOO_MANY, begin);
    }

    private boolean isReserved(int begin, int end) {
        // A name's bytes are characters, so that 32 more or less is the letter's case alone.
        return end - begin == 3
            && (cursor.byteAt(begin) | 32) == 'x'
            && (cursor.byteAt(begin + 1) | 32) == 'm'
            && (cursor.byteAt(begin + 2) | 32) == 'l';
    }

    private boolean isKnownReference(int begin, int end) {
        return cursor.isWord("lt", begin, end)
            || cursor.isWord("gt", begin, end)
            || cursor.isWord("amp", begin, end)
            || cursor.isWord("apos", begin, end)
            || cursor.isWord("quot", begin, end);
    }

    private static boolean isBlank(int b) {
        return b == 9 || b == 10 || b == 13 || b == 32;
    }

    private static boolean isCharacter(int b) {
        return isBlank(b) || (b > 32 && b <= 126);
    }

    /** What content and values may hold as it is; of the quotes, a value's own ends it before this is asked. */
    private static boolean isContentCharacter(int b) {
        return isCharacter(b) && b != '<' && b != '&';
    }

    private static boolean isNameStart(int b) {
        return (b >= 'A' && b <= 'Z') || (b >= 'a' && b <= 'z') || b == '_' || b == ':';
    }

    private static boolean isNamePart(int b) {
        return isNameStart(b) || (b >= '0' && b <= '9') || b == '-' || b == '.';
    }

    private static int digitOf(int b, int base) {
        if (b >= '0' && b <= '9') {
            return b - '0';
        }
        if (base == 16 && b >= 'a' && b <= 'f') {
            return b - 'a' + 10;
        }
        if (base == 16 && b >= 'A' && b <= 'F') {
            return b - 'A' + 10;
        }
        return NONE;
    }

    /** The text that is read, how far it has been read, and its first fault. */
    private static final class Cursor {
        private int[] bytes;
        private int length;
        private int at;
        private int fault;
        private int faultPlace;

        Cursor() {
            bytes = new int[TEXT_LIMIT];
            fault = NO_FAULT;
            faultPlace = NONE;
        }

        /** Takes the row of the next text, and gives the row of the last one back for the text behind it. */
        int[] begin(int[] next, int nextLength) {
            int[] last = bytes;
            bytes = next;
            length = nextLength;
            at = 0;
            fault = NO_FAULT;
            faultPlace = NONE;
            return last;
        }

        boolean goesOn() {
            return fault == NO_FAULT && at < length;
        }

        int byteAt(int i) {
            return i >= 0 && i < length && i < bytes.length ? bytes[i] : NONE;
        }

        int here() {
            return byteAt(at);
        }

        /** Always false, for callers to answer with; only the first fault of a text counts. */
        boolean fail(int kind, int where) {
            if (fault == NO_FAULT) {
                fault = kind;
                faultPlace = where;
            }
            return false;
        }

        boolean failHere() {
            return fail(SYNTAX, at);
        }

        boolean standsAt(String word, int from) {
            for (int i = 0; i < word.length(); i++) {
                if (byteAt(from + i) != word.charAt(i)) {
                    return false;
                }
            }
            return true;
        }

        boolean isWord(String word, int begin, int end) {
            return end - begin == word.length() && standsAt(word, begin);
        }

        boolean sameBytes(int begin, int otherBegin, int many) {
            for (int i = 0; i < many; i++) {
                if (byteAt(begin + i) != byteAt(otherBegin + i)) {
                    return false;
                }
            }
            return true;
        }

        boolean expect(String word) {
            for (int i = 0; i < word.length(); i++) {
                if (here() != word.charAt(i)) {
                    return failHere();
                }
                at++;
            }
            return true;
        }

        boolean passBlanks() {
            int begin = at;
            while (at < length && isBlank(here())) {
                at++;
            }
            return at > begin;
        }

        boolean passName() {
            if (!isNameStart(here())) {
                return failHere();
            }
            while (at < length && isNamePart(here())) {
                at++;
            }
            return true;
        }

        /** The number's digits, as many as stand there; what is beyond every character stays beyond. */
        int passNumber(int base) {
            int number = 0;
            while (at < length && digitOf(here(), base) != NONE) {
                number = Math.min(number * base + digitOf(here(), base), NUMBER_LIMIT);
                at++;
            }
            return number;
        }

        boolean passUntil(String end) {
            while (at < length && !standsAt(end, at)) {
                if (!isCharacter(here())) {
                    return failHere();
                }
                at++;
            }
            return expect(end);
        }
    }

    /** The pieces of the text that was read last. */
    private static final class Pieces {
        private final int[] kinds;
        private final int[] begins;
        private final int[] ends;
        private final int[] depths;
        private int size;
        private int attributes;

        Pieces() {
            kinds = new int[PIECE_LIMIT];
            begins = new int[PIECE_LIMIT];
            ends = new int[PIECE_LIMIT];
            depths = new int[PIECE_LIMIT];
        }

        void clear() {
            size = 0;
            attributes = 0;
        }

        boolean add(int kind, int begin, int end, int depth) {
            if (size < 0 || size >= PIECE_LIMIT) {
                return false;
            }
            kinds[size] = kind;
            begins[size] = begin;
            ends[size] = end;
            depths[size] = depth;
            size++;
            if (kind == ATTRIBUTE) {
                attributes++;
            }
            return true;
        }

        int tell(int k, int what) {
            if (k < 0 || k >= size || k >= PIECE_LIMIT) {
                return NONE;
            }
            switch (what) {
                case 0:
                    return kinds[k];
                case 1:
                    return begins[k];
                case 2:
                    return ends[k];
                case 3:
                    return depths[k];
                default:
                    return NONE;
            }
        }
    }

    /** Names by their places in the text, up to a limit. */
    private static final class Names {
        private final int[] begins;
        private final int[] ends;
        private final int limit;
        private int size;

        /** The limit is one of the class's own constants, none of which is negative. */
        Names(int limit) {
            this.limit = Math.max(limit, 0);
            begins = new int[this.limit];
            ends = new int[this.limit];
        }

        void clear() {
            size = 0;
        }

        boolean isFull() {
            return size >= limit;
        }

        void add(int begin, int end) {
            if (size >= 0 && size < limit) {
                begins[size] = begin;
                ends[size] = end;
                size++;
            }
        }

        void dropLast() {
            if (size > 0) {
                size--;
            }
        }

        boolean isLast(Cursor cursor, int begin, int end) {
            return isAt(size - 1, cursor, begin, end);
        }

        boolean has(Cursor cursor, int begin, int end) {
            for (int i = 0; i < size; i++) {
                if (isAt(i, cursor, begin, end)) {
                    return true;
                }
            }
            return false;
        }

        private boolean isAt(int i, Cursor cursor, int begin, int end) {
            return i >= 0 && i < size && i < limit
                && ends[i] - begins[i] == end - begin
                && cursor.sameBytes(begins[i], begin, end - begin);
        }
    }
}
