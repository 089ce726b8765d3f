/**
 * The front of a language in the manner of Haskell: cuts a text into lexemes, puts in the braces
 * and semicolons that columns stand for, and the brackets that fixities stand for.
 */
public final class LayoutFront {
    public static final int NONE = -1;

    private static final int MOST_CHARACTERS = 240;
    private static final int MOST_LEXEMES = 90;
    private static final int MOST_FIXITIES = 12;

    private static final int LONGEST_NAME = 7;
    private static final int LONGEST_NUMBER = 9;

    // Every lexeme may have a ";" before it and begin a block, and so may the end.
    private static final int MOST_LAID = 4 * MOST_LEXEMES + 2;
    // Every lexeme opens at most itself and a block behind it, and there is the block of the text.
    private static final int MOST_OPEN = 2 * MOST_LEXEMES + 1;
    private static final int MOST_TOKENS = MOST_LAID + 2 * MOST_LEXEMES;

    private static final int NAME = 0;
    private static final int NUMBER = 1;
    private static final int OPERATOR = 2;
    private static final int SIGN = 3;
    private static final int FOR_BLOCKS = 4;
    private static final int FOR_OPERATIONS = 5;

    // Places in WORDS.
    private static final int WORD_LET = 0;
    private static final int WORD_WHERE = 1;
    private static final int WORD_DO = 2;
    private static final int WORD_OF = 3;
    private static final int WORD_IN = 4;
    private static final int WORD_IF = 5;
    private static final int WORD_THEN = 6;
    private static final int WORD_ELSE = 7;
    private static final int WORD_CASE = 8;

    private static final long[] WORDS = {
        0x74656cL, // let
        0x6572656877L, // where
        0x6f64L, // do
        0x666fL, // of
        0x6e69L, // in
        0x6669L, // if
        0x6e656874L, // then
        0x65736c65L, // else
        0x65736163L, // case
    };

    private static final long[] RESERVED = {
        0x3dL, // =
        0x3e2dL, // ->
        0x2d3cL, // <-
        0x7cL, // |
        0x3a3aL, // ::
        0x3e3dL, // =>
        0x5cL, // \
        0x40L, // @
        0x7eL, // ~
        0x2e2eL, // ..
    };

    private static final int LEFT = 0;
    private static final int NO_SIDE = 2;
    private static final int TOP_LEVEL = 9;
    private static final int MINUS_LEVEL = 6;

    private static final int COUNTS = 5;

    private final Text text;
    private final Fixities fixities;
    private final Cutter cutter;
    private final Blocks blocks;
    private final Rows rows;
    private final Tokens tokens;
    private final int[] counts;
    private int wrongPlace;

    public LayoutFront() {
        text = new Text();
        fixities = new Fixities();
        cutter = new Cutter();
        blocks = new Blocks();
        rows = new Rows();
        tokens = new Tokens(MOST_TOKENS);
        counts = new int[COUNTS];
        wrongPlace = NONE;
    }

    public int write(long eight, int n) throws IllegalArgumentException, IllegalStateException {
        if (n < 1 || n > 8 || !Text.areCharacters(eight, n)) {
            throw new IllegalArgumentException("not 1 to 8 characters");
        }
        if (!text.hasRoomFor(n)) {
            throw new IllegalStateException("more than 240 characters");
        }
        text.append(eight, n);
        return text.length();
    }

    public int erase() {
        int had = text.length();
        text.clear();
        return had;
    }

    public int fixity(long name, int side, int level)
            throws IllegalArgumentException, IllegalStateException {
        if (side < LEFT || side > NO_SIDE || level < 0 || level > TOP_LEVEL) {
            throw new IllegalArgumentException("no such side or level");
        }
        if (!fixities.hasRoomFor(name)) {
            throw new IllegalStateException("more than 12 fixities");
        }
        fixities.set(name, side, level);
        return fixities.size();
    }

    public int read() throws IllegalArgumentException, IllegalStateException {
        tokens.clear();
        wrongPlace = cutter.cut(text);
        if (cutter.foundTooMany()) {
            throw new IllegalStateException("more than 90 lexemes");
        }
        if (wrongPlace == NONE) {
            wrongPlace = blocks.lay(cutter.lexemes(), text.length());
        }
        if (wrongPlace != NONE) {
            throw new IllegalArgumentException("the text is wrong");
        }
        rows.putTogether(blocks.laid(), fixities);
        rows.copyInto(tokens, blocks.laid());
        keepCounts();
        return tokens.size();
    }

    private void keepCounts() {
        counts[0] = cutter.lexemes().size();
        counts[1] = blocks.begun();
        counts[2] = rows.together();
        counts[3] = rows.inConflict();
        counts[4] = blocks.mostOpen();
    }

    public int place() {
        return wrongPlace;
    }

    public int kind(int i) throws IndexOutOfBoundsException {
        if (!tokens.has(i)) {
            throw new IndexOutOfBoundsException("no such token");
        }
        return tokens.kindAt(i);
    }

    public long token(int i) throws IndexOutOfBoundsException {
        if (!tokens.has(i)) {
            throw new IndexOutOfBoundsException("no such token");
        }
        return tokens.valueAt(i);
    }

    public int count(int what) throws IndexOutOfBoundsException {
        if (what < 0 || what >= COUNTS) {
            throw new IndexOutOfBoundsException("no such count");
        }
        return counts[what];
    }

    /** The characters that were written. */
    private static final class Text {
        private final char[] characters = new char[MOST_CHARACTERS];
        private int length;

        static boolean areCharacters(long eight, int n) {
            for (int i = 0; i < n; i++) {
                int c = byteOf(eight, i);
                if (c != '\n' && (c < ' ' || c > '~')) {
                    return false;
                }
            }
            return true;
        }

        private static int byteOf(long eight, int i) {
            return (int) (eight >>> (8 * i)) & 255;
        }

        int length() {
            return length;
        }

        boolean hasRoomFor(int n) {
            return n <= MOST_CHARACTERS - length;
        }

        void append(long eight, int n) {
            for (int i = 0; i < n && length < MOST_CHARACTERS; i++) {
                characters[length] = (char) byteOf(eight, i);
                length++;
            }
        }

        void clear() {
            length = 0;
        }

        /** Beyond the end stands 0, which is no character, so that looking ahead is safe. */
        char at(int i) {
            return i >= 0 && i < length ? characters[i] : 0;
        }

        long packed(int from, int to) {
            long all = 0;
            for (int i = to - 1; i >= from; i--) {
                all = all << 8 | at(i);
            }
            return all;
        }

        long number(int from, int to) {
            long all = 0;
            for (int i = from; i < to; i++) {
                all = all * 10 + (at(i) - '0');
            }
            return all;
        }
    }

    /** The fixities that were set, by name. */
    private static final class Fixities {
        private final long[] names = new long[MOST_FIXITIES];
        private final int[] sides = new int[MOST_FIXITIES];
        private final int[] levels = new int[MOST_FIXITIES];
        private int size;

        int size() {
            return size;
        }

        boolean hasRoomFor(long name) {
            return size < MOST_FIXITIES || find(name) != NONE;
        }

        void set(long name, int side, int level) {
            int i = find(name);
            if (i == NONE) {
                i = size;
            }
            if (i < MOST_FIXITIES) {
                names[i] = name;
                sides[i] = side;
                levels[i] = level;
                size = Math.max(size, i + 1);
            }
        }

        int sideOf(long name) {
            int i = find(name);
            return i == NONE ? LEFT : sides[i];
        }

        int levelOf(long name) {
            int i = find(name);
            return i == NONE ? TOP_LEVEL : levels[i];
        }

        private int find(long name) {
            for (int i = 0; i < size; i++) {
                if (names[i] == name) {
                    return i;
                }
            }
            return NONE;
        }
    }

    /** A row of tokens: of each its kind, and its number or packed characters. */
    private static final class Tokens {
        private final int[] kinds;
        private final long[] values;
        private int size;

        Tokens(int most) {
            kinds = new int[most];
            values = new long[most];
        }

        void clear() {
            size = 0;
        }

        int size() {
            return size;
        }

        void add(int kind, long value) {
            if (size < kinds.length) {
                kinds[size] = kind;
                values[size] = value;
                size++;
            }
        }

        void addTimes(int times, int kind, long value) {
            for (int i = 0; i < times; i++) {
                add(kind, value);
            }
        }

        boolean has(int i) {
            return i >= 0 && i < size;
        }

        int kindAt(int i) {
            return has(i) ? kinds[i] : NONE;
        }

        long valueAt(int i) {
            return has(i) ? values[i] : 0;
        }

        boolean isSign(int i, char sign) {
            return i >= 0 && i < size && kinds[i] == SIGN && values[i] == sign;
        }

        boolean opensBracket(int i) {
            return isSign(i, '(') || isSign(i, '[');
        }

        boolean closesBracket(int i) {
            return isSign(i, ')') || isSign(i, ']');
        }

        /** Which of the WORDS token i is, or NONE. */
        int wordAt(int i) {
            return has(i) && kinds[i] == NAME ? find(WORDS, values[i]) : NONE;
        }

        /** Whether token i is a name that is no word. */
        boolean isFreeName(int i) {
            return has(i) && kinds[i] == NAME && find(WORDS, values[i]) == NONE;
        }

        /** Whether token i is an operator that is not reserved. */
        boolean isFreeOperator(int i) {
            return has(i) && kinds[i] == OPERATOR && find(RESERVED, values[i]) == NONE;
        }

        private static int find(long[] row, long value) {
            for (int i = 0; i < row.length; i++) {
                if (row[i] == value) {
                    return i;
                }
            }
            return NONE;
        }
    }

    /** The lexemes of a text, and where each stands. */
    private static final class Lexemes {
        private final Tokens tokens = new Tokens(MOST_LEXEMES);
        private final int[] places = new int[MOST_LEXEMES];
        private final int[] columns = new int[MOST_LEXEMES];
        private final boolean[] lineFirsts = new boolean[MOST_LEXEMES];

        void clear() {
            tokens.clear();
        }

        int size() {
            return tokens.size();
        }

        boolean isFull() {
            return tokens.size() >= MOST_LEXEMES;
        }

        Tokens tokens() {
            return tokens;
        }

        void add(int kind, long value, int place, int column, boolean lineFirst) {
            int i = tokens.size();
            if (i < MOST_LEXEMES) {
                places[i] = place;
                columns[i] = column;
                lineFirsts[i] = lineFirst;
                tokens.add(kind, value);
            }
        }

        int placeAt(int i) {
            return tokens.has(i) ? places[i] : NONE;
        }

        /** 0 at the end, where no lexeme is. */
        int columnAt(int i) {
            return tokens.has(i) ? columns[i] : 0;
        }

        boolean isLineFirst(int i) {
            return tokens.has(i) && lineFirsts[i];
        }
    }

    /** Cuts a text into lexemes. */
    private static final class Cutter {
        private final Lexemes lexemes = new Lexemes();
        private int at;
        private int lineStart;
        private boolean lineIsFresh;
        private int wrongPlace = NONE;
        private boolean tooMany;

        Lexemes lexemes() {
            return lexemes;
        }

        boolean foundTooMany() {
            return tooMany;
        }

        /** Answers where the text is wrong or has a lexeme too many, or NONE. */
        int cut(Text text) {
            lexemes.clear();
            at = 0;
            lineStart = 0;
            lineIsFresh = true;
            wrongPlace = NONE;
            tooMany = false;
            // A step that finds nothing wrong goes on by a character or more.
            for (int steps = 0; steps < MOST_CHARACTERS; steps++) {
                if (at >= text.length() || wrongPlace != NONE) {
                    break;
                }
                if (isBlank(text.at(at))) {
                    passCharacter(text.at(at));
                } else if (opensComment(text, at)) {
                    passComment(text);
                } else {
                    cutLexeme(text);
                }
            }
            return wrongPlace;
        }

        private static boolean isBlank(char c) {
            return c == ' ' || c == '\n';
        }

        private void passCharacter(char c) {
            at++;
            if (c == '\n') {
                lineStart = at;
                lineIsFresh = true;
            }
        }

        private static boolean opensComment(Text text, int i) {
            return text.at(i) == '{' && text.at(i + 1) == '-';
        }

        private static boolean closesComment(Text text, int i) {
            return text.at(i) == '-' && text.at(i + 1) == '}';
        }

        private void passComment(Text text) {
            int start = at;
            int depth = 0;
            for (int steps = 0; steps < MOST_CHARACTERS && at < text.length(); steps++) {
                if (opensComment(text, at)) {
                    depth++;
                    at += 2;
                } else if (closesComment(text, at)) {
                    depth--;
                    at += 2;
                } else {
                    passCharacter(text.at(at));
                }
                if (depth == 0) {
                    return;
                }
            }
            wrongPlace = start;
        }

        private void cutLexeme(Text text) {
            int kind = kindBegunBy(text.at(at));
            int end = lexemeEnd(text, kind);
            if (kind == OPERATOR && isDashes(text, end)) {
                at = lineEnd(text, end);
            } else if (kind == NONE || end - at > longest(kind)) {
                wrongPlace = at;
            } else if (lexemes.isFull()) {
                wrongPlace = at;
                tooMany = true;
            } else {
                take(text, kind, end);
            }
        }

        private void take(Text text, int kind, int end) {
            long value = kind == NUMBER ? text.number(at, end) : text.packed(at, end);
            lexemes.add(kind, value, at, at - lineStart + 1, lineIsFresh);
            lineIsFresh = false;
            at = end;
        }

        private static int kindBegunBy(char c) {
            if (isLetter(c)) {
                return NAME;
            }
            if (isDigit(c)) {
                return NUMBER;
            }
            if (isOperatorPart(c)) {
                return OPERATOR;
            }
            return isSign(c) ? SIGN : NONE;
        }

        private static int longest(int kind) {
            return kind == NUMBER ? LONGEST_NUMBER : LONGEST_NAME;
        }

        private int lexemeEnd(Text text, int kind) {
            for (int i = at + 1; i < text.length(); i++) {
                if (!goesOn(kind, text.at(i))) {
                    return i;
                }
            }
            return text.length();
        }

        private static boolean goesOn(int kind, char c) {
            switch (kind) {
                case NAME:
                    return isLetter(c) || isDigit(c) || c == '\'';
                case NUMBER:
                    return isDigit(c);
                case OPERATOR:
                    return isOperatorPart(c);
                default:
                    return false;
            }
        }

        /** Whether the operator is two or more "-" alone, and so begins a comment. */
        private boolean isDashes(Text text, int end) {
            for (int i = at; i < end; i++) {
                if (text.at(i) != '-') {
                    return false;
                }
            }
            return end - at >= 2;
        }

        private static int lineEnd(Text text, int from) {
            for (int i = from; i < text.length(); i++) {
                if (text.at(i) == '\n') {
                    return i;
                }
            }
            return text.length();
        }

        private static boolean isLetter(char c) {
            return c >= 'a' && c <= 'z' || c >= 'A' && c <= 'Z' || c == '_';
        }

        private static boolean isDigit(char c) {
            return c >= '0' && c <= '9';
        }

        private static boolean isOperatorPart(char c) {
            return "!#$%&*+./<=>?@\\^|-~:".indexOf(c) >= 0;
        }

        private static boolean isSign(char c) {
            return "()[]{},;`".indexOf(c) >= 0;
        }
    }

    /** What is open: a block is its column, 0 or more; all else is below 0. */
    private static final class Open {
        static final int LET = -1;
        static final int IF = -2;
        static final int THEN = -3;
        static final int CASE = -4;
        static final int PARENTHESIS = -5;
        static final int SQUARE = -6;
        static final int NOTHING = -7;

        static final int BRACED = 0;

        private final int[] things = new int[MOST_OPEN];
        private int size;
        private int most;

        void clear() {
            size = 0;
            most = 0;
        }

        int size() {
            return size;
        }

        int most() {
            return most;
        }

        void push(int thing) {
            if (size < MOST_OPEN) {
                things[size] = thing;
                size++;
                most = Math.max(most, size);
            }
        }

        void pop() {
            if (size > 0) {
                size--;
            }
        }

        int top() {
            return at(size - 1);
        }

        private int at(int i) {
            return i >= 0 && i < size ? things[i] : NOTHING;
        }

        int belowLets() {
            int i = size - 1;
            while (i >= 0 && at(i) == LET) {
                i--;
            }
            return at(i);
        }

        int belowLetsAndLaidBlocks() {
            int i = size - 1;
            while (i >= 0 && (at(i) == LET || at(i) > BRACED)) {
                i--;
            }
            return at(i);
        }

        void dropLets() {
            while (size > 0 && at(size - 1) == LET) {
                size--;
            }
        }

        /** 0 without a block. */
        int latestColumn() {
            for (int i = size - 1; i >= 0; i--) {
                if (at(i) >= BRACED) {
                    return at(i);
                }
            }
            return 0;
        }
    }

    /** Goes through lexemes and puts in what blocks leave out. */
    private static final class Blocks {
        private final Open open = new Open();
        private final Tokens laid = new Tokens(MOST_LAID);
        private int begun;

        Tokens laid() {
            return laid;
        }

        int begun() {
            return begun;
        }

        int mostOpen() {
            return open.most();
        }

        /** Answers where the text is wrong, or NONE. */
        int lay(Lexemes lexemes, int textLength) {
            open.clear();
            laid.clear();
            begun = 0;
            for (int i = 0; i < lexemes.size(); i++) {
                putBefore(lexemes, i);
                int kind = lexemes.tokens().kindAt(i);
                long value = lexemes.tokens().valueAt(i);
                boolean fits = kind == SIGN
                        ? passSign((char) value) : passWord(lexemes.tokens().wordAt(i));
                if (!fits) {
                    return lexemes.placeAt(i);
                }
                laid.add(kind, value);
            }
            putBefore(lexemes, lexemes.size());
            closeBlocks(true);
            return open.size() == 0 ? NONE : textLength;
        }

        private void putBefore(Lexemes lexemes, int i) {
            if (beginsBlock(lexemes.tokens(), i)) {
                begin(lexemes.columnAt(i));
            } else if (i > 0 && lexemes.isLineFirst(i)) {
                mark(lexemes.columnAt(i));
            }
        }

        private static boolean beginsBlock(Tokens tokens, int i) {
            if (tokens.isSign(i, '{')) {
                return false;
            }
            switch (tokens.wordAt(i - 1)) {
                case WORD_LET:
                case WORD_WHERE:
                case WORD_DO:
                case WORD_OF:
                    return true;
                default:
                    return i == 0;
            }
        }

        private void begin(int column) {
            begun++;
            putIn('{');
            if (column > open.latestColumn()) {
                open.push(column);
            } else {
                putIn('}');
                // The end, whose column is 0, has no mark.
                if (column > 0) {
                    mark(column);
                }
            }
        }

        private void mark(int column) {
            for (int left = open.size(); left > 0 && open.belowLets() > column; left--) {
                open.dropLets();
                putIn('}');
                open.pop();
            }
            if (open.belowLets() == column) {
                open.dropLets();
                putIn(';');
            }
        }

        private void putIn(char c) {
            laid.add(FOR_BLOCKS, c);
        }

        /** Whether the word fits what is open; NONE, for what is no word, always does. */
        private boolean passWord(int word) {
            switch (word) {
                case WORD_LET:
                    open.push(Open.LET);
                    return true;
                case WORD_IF:
                    open.push(Open.IF);
                    return true;
                case WORD_CASE:
                    open.push(Open.CASE);
                    return true;
                case WORD_THEN:
                    boolean fits = end(Open.IF);
                    if (fits) {
                        open.push(Open.THEN);
                    }
                    return fits;
                case WORD_ELSE:
                    return end(Open.THEN);
                case WORD_OF:
                    return end(Open.CASE);
                case WORD_IN:
                    return end(Open.LET);
                default:
                    return true;
            }
        }

        /** Whether the sign fits what is open. */
        private boolean passSign(char sign) {
            switch (sign) {
                case '(':
                    open.push(Open.PARENTHESIS);
                    return true;
                case '[':
                    open.push(Open.SQUARE);
                    return true;
                case '{':
                    open.push(Open.BRACED);
                    return true;
                case ')':
                    return end(Open.PARENTHESIS);
                case ']':
                    return end(Open.SQUARE);
                case '}':
                    return passBrace();
                case ',':
                    passComma();
                    return true;
                case ';':
                    open.dropLets();
                    return true;
                default:
                    return true;
            }
        }

        private boolean passBrace() {
            open.dropLets();
            boolean fits = open.top() == Open.BRACED;
            if (fits) {
                open.pop();
            }
            return fits;
        }

        private void passComma() {
            int below = open.belowLetsAndLaidBlocks();
            if (below == Open.PARENTHESIS || below == Open.SQUARE) {
                closeBlocks(true);
            }
        }

        /** Ends the blocks on top and the thing below them, if that is the one that is due. */
        private boolean end(int thing) {
            closeBlocks(thing != Open.LET);
            boolean fits = open.top() == thing;
            if (fits) {
                open.pop();
            }
            return fits;
        }

        private void closeBlocks(boolean letsToo) {
            for (int left = open.size(); left > 0; left--) {
                if (open.top() > Open.BRACED) {
                    putIn('}');
                } else if (!letsToo || open.top() != Open.LET) {
                    break;
                }
                open.pop();
            }
        }
    }

    /** One row: operands, each an application, and operations, by their first and last tokens. */
    private static final class Row {
        static final int OPERAND = 0;
        static final int OPERATION = 1;
        static final int MINUS = 2;

        private final int[] parts = new int[MOST_LEXEMES];
        private final int[] firsts = new int[MOST_LEXEMES];
        private final int[] lasts = new int[MOST_LEXEMES];
        private int size;
        private boolean operates;
        private boolean lacksOperand;

        void clear() {
            size = 0;
            operates = false;
            lacksOperand = false;
        }

        int size() {
            return size;
        }

        /** Whether there are operations, and no operand is missing. */
        boolean isWhole() {
            return operates && !lacksOperand && endsWithOperand();
        }

        private boolean endsWithOperand() {
            return size > 0 && parts[size - 1] == OPERAND;
        }

        void addOperand(int first, int last) {
            if (endsWithOperand()) {
                lasts[size - 1] = last;
            } else {
                add(OPERAND, first, last);
            }
        }

        void addOperation(int first, int last, boolean isDash) {
            boolean isBare = !endsWithOperand();
            operates = true;
            lacksOperand = lacksOperand || isBare && !isDash;
            add(isBare ? MINUS : OPERATION, first, last);
        }

        private void add(int part, int first, int last) {
            if (size < MOST_LEXEMES) {
                parts[size] = part;
                firsts[size] = first;
                lasts[size] = last;
                size++;
            }
        }

        private boolean has(int i) {
            return i >= 0 && i < size;
        }

        int partAt(int i) {
            return has(i) ? parts[i] : NONE;
        }

        int firstAt(int i) {
            return has(i) ? firsts[i] : NONE;
        }

        int lastAt(int i) {
            return has(i) ? lasts[i] : NONE;
        }
    }

    /**
     * Puts rows together, one after another, by what their operations' fixities ask, and keeps the
     * pairs of brackets that this gives: each by the first and last tokens that it goes around.
     */
    private static final class Resolver {
        private final int[] pairFirsts = new int[MOST_LEXEMES];
        private final int[] pairLasts = new int[MOST_LEXEMES];
        private int pairs;
        private int pairsBefore;

        private final int[] firsts = new int[MOST_LEXEMES];
        private final int[] lasts = new int[MOST_LEXEMES];
        private int operands;

        private final int[] levels = new int[MOST_LEXEMES];
        private final int[] sides = new int[MOST_LEXEMES];
        private final int[] minusPlaces = new int[MOST_LEXEMES];
        private int waiting;

        void clear() {
            pairs = 0;
            startRow();
        }

        void startRow() {
            pairsBefore = pairs;
            operands = 0;
            waiting = 0;
        }

        void giveUpRow() {
            pairs = pairsBefore;
        }

        void finishRow() {
            for (int left = waiting; left > 0; left--) {
                giveSides();
            }
        }

        void takeOperand(int first, int last) {
            if (operands < MOST_LEXEMES) {
                firsts[operands] = first;
                lasts[operands] = last;
                operands++;
            }
        }

        /** Answers false on a conflict. */
        boolean takeMinus(int place) {
            if (waiting > 0 && levels[waiting - 1] >= MINUS_LEVEL) {
                return false;
            }
            letWait(MINUS_LEVEL, LEFT, place);
            return true;
        }

        /** Answers false on a conflict. */
        boolean takeOperation(int level, int side) {
            for (int i = waiting - 1; i >= 0; i--) {
                boolean same = levels[i] == level;
                if (same && (sides[i] != side || side == NO_SIDE)) {
                    return false;
                }
                if (levels[i] < level || same && side != LEFT) {
                    break;
                }
                giveSides();
            }
            letWait(level, side, NONE);
            return true;
        }

        /** A minus has its place, another operation NONE. */
        private void letWait(int level, int side, int minusPlace) {
            if (waiting < MOST_LEXEMES) {
                levels[waiting] = level;
                sides[waiting] = side;
                minusPlaces[waiting] = minusPlace;
                waiting++;
            }
        }

        private void giveSides() {
            if (waiting < 1 || operands < 1) {
                return;
            }
            waiting--;
            if (minusPlaces[waiting] != NONE) {
                firsts[operands - 1] = minusPlaces[waiting];
            } else if (operands >= 2) {
                operands--;
                lasts[operands - 1] = lasts[operands];
            }
            if (pairs < MOST_LEXEMES) {
                pairFirsts[pairs] = firsts[operands - 1];
                pairLasts[pairs] = lasts[operands - 1];
                pairs++;
            }
        }

        /** Adds to each token how many brackets are opened before it and closed behind it. */
        void tally(int[] opened, int[] closed) {
            for (int i = 0; i < pairs; i++) {
                int first = pairFirsts[i];
                int last = pairLasts[i];
                if (first >= 0 && first < opened.length && last >= 0 && last < closed.length) {
                    opened[first]++;
                    closed[last]++;
                }
            }
        }
    }

    /** Finds the rows among laid tokens and has them put together. */
    private static final class Rows {
        private final int[] closers = new int[MOST_LAID];
        private final int[] openers = new int[MOST_LEXEMES];
        private final int[] opened = new int[MOST_LAID];
        private final int[] closed = new int[MOST_LAID];
        private final Row row = new Row();
        private final Resolver resolver = new Resolver();
        private int together;
        private int inConflict;

        int together() {
            return together;
        }

        int inConflict() {
            return inConflict;
        }

        void putTogether(Tokens laid, Fixities fixities) {
            together = 0;
            inConflict = 0;
            resolver.clear();
            matchBrackets(laid);
            putLevelTogether(laid, 0, laid.size(), fixities);
            for (int i = 0; i < laid.size(); i++) {
                if (laid.opensBracket(i)) {
                    putLevelTogether(laid, i + 1, closerOf(i), fixities);
                }
            }
        }

        /** The laid tokens with the brackets that were put in. */
        void copyInto(Tokens tokens, Tokens laid) {
            for (int i = 0; i < MOST_LAID; i++) {
                opened[i] = 0;
                closed[i] = 0;
            }
            resolver.tally(opened, closed);
            for (int i = 0; i < laid.size() && i < MOST_LAID; i++) {
                tokens.addTimes(opened[i], FOR_OPERATIONS, '(');
                tokens.add(laid.kindAt(i), laid.valueAt(i));
                tokens.addTimes(closed[i], FOR_OPERATIONS, ')');
            }
        }

        private void matchBrackets(Tokens laid) {
            int depth = 0;
            for (int i = 0; i < laid.size() && i < MOST_LAID; i++) {
                closers[i] = i;
                if (laid.opensBracket(i) && depth < MOST_LEXEMES) {
                    openers[depth] = i;
                    depth++;
                } else if (laid.closesBracket(i) && depth > 0) {
                    depth--;
                    closers[openers[depth]] = i;
                }
            }
        }

        /** The token itself, if it opens no bracket. */
        private int closerOf(int i) {
            return i >= 0 && i < MOST_LAID ? closers[i] : i;
        }

        /** The rows from one token to before another that are in no bracket between the two. */
        private void putLevelTogether(Tokens laid, int from, int to, Fixities fixities) {
            int at = from;
            // A row may be empty, but the token behind it is always passed.
            for (int steps = from; steps < to && at < to; steps++) {
                at = collectRow(laid, at, to) + 1;
                if (row.isWhole()) {
                    putRowTogether(laid, fixities);
                }
            }
        }

        /** Answers the place behind the row. */
        private int collectRow(Tokens laid, int from, int to) {
            row.clear();
            int at = from;
            for (int steps = from; steps < to && at < to; steps++) {
                int behindOperand = behindOperand(laid, at);
                int behindOperation = behindOperation(laid, at);
                if (behindOperand > at) {
                    row.addOperand(at, behindOperand - 1);
                } else if (behindOperation > at) {
                    row.addOperation(at, behindOperation - 1, laid.valueAt(at) == '-');
                } else {
                    break;
                }
                at = Math.max(behindOperand, behindOperation);
            }
            return at;
        }

        /** The token itself, if it begins no operand. */
        private int behindOperand(Tokens laid, int i) {
            if (laid.opensBracket(i)) {
                return closerOf(i) + 1;
            }
            return laid.isFreeName(i) || laid.kindAt(i) == NUMBER ? i + 1 : i;
        }

        /** The token itself, if it begins no operation. */
        private static int behindOperation(Tokens laid, int i) {
            if (laid.isSign(i, '`') && laid.isFreeName(i + 1) && laid.isSign(i + 2, '`')) {
                return i + 3;
            }
            return laid.isFreeOperator(i) ? i + 1 : i;
        }

        private void putRowTogether(Tokens laid, Fixities fixities) {
            resolver.startRow();
            for (int i = 0; i < row.size(); i++) {
                if (!take(laid, i, fixities)) {
                    resolver.giveUpRow();
                    inConflict++;
                    return;
                }
            }
            resolver.finishRow();
            together++;
        }

        /** Answers false on a conflict. */
        private boolean take(Tokens laid, int i, Fixities fixities) {
            int first = row.firstAt(i);
            int last = row.lastAt(i);
            switch (row.partAt(i)) {
                case Row.OPERATION:
                    // The name of three tokens, a name between two `, is the second one.
                    long name = laid.valueAt(first == last ? first : first + 1);
                    return resolver.takeOperation(fixities.levelOf(name), fixities.sideOf(name));
                case Row.MINUS:
                    return resolver.takeMinus(first);
                default:
                    resolver.takeOperand(first, last);
                    return true;
            }
        }
    }
}
