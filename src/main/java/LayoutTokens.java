/**
 * Program texts read to tokens in the way of Haskell, with the braces and semicolons that the
 * layout puts in. The document's promises say what each call of the face answers.
 *
 * <p>A method that reads answers the place behind what it has read, or a FAULT: -2 less its place,
 * which is always below NONE, so that one int carries both.
 */
public final class LayoutTokens {
    public static final int NONE = -1;

    private static final int MOST_OCTETS = 600;
    private static final int MOST_TOKENS = 500;
    private static final int MOST_ITEMS = 60;
    private static final int MOST_LETTERS = 3000;
    /** The shortest COMMENT with an end, two - and the end of the LINE, has three octets. */
    private static final int MOST_COMMENTS = 200;
    private static final int DEEPEST_COMMENT = 30;
    private static final int GREATEST_CODE = 1114111;

    private static final int SMALL = 0;
    private static final int LARGE = 1;
    private static final int WORD = 2;
    private static final int OPERATOR = 3;
    private static final int COLON_OPERATOR = 4;
    private static final int KEPT_OPERATOR = 5;
    private static final int QUALIFIED_SMALL = 6;
    private static final int QUALIFIED_LARGE = 7;
    private static final int QUALIFIED_OPERATOR = 8;
    private static final int WHOLE_NUMBER = 9;
    private static final int BROKEN_NUMBER = 10;
    private static final int CHARACTER = 11;
    private static final int TEXT = 12;
    private static final int SPECIAL = 13;
    private static final int PUT_OPEN = 14;
    private static final int PUT_SEMICOLON = 15;
    private static final int PUT_CLOSE = 16;

    /** The WORDS, each in a field of nine letters; a WORD's mark is its field's number. */
    private static final String WORDS =
            "case     class    data     default  deriving do       else     foreign  if       import   in       infix    infixl   infixr   instance let      module   newtype  of       then     type     where    _        ";
    private static final int WORD_FIELD = 9;
    private static final int WORD_COUNT = 23;
    private static final int CASE = 0;
    private static final int DO = 5;
    private static final int ELSE = 6;
    private static final int IF = 8;
    private static final int IN = 10;
    private static final int LET = 15;
    private static final int MODULE = 16;
    private static final int OF = 18;
    private static final int THEN = 19;
    private static final int WHERE = 21;

    /** The names of codes, each in a field of four; SOH comes before SO, so the longer one wins. */
    private static final String CODE_NAMES =
            "NUL SOH STX ETX EOT ENQ ACK BEL BS  HT  LF  VT  FF  CR  SO  SI  DLE DC1 DC2 DC3 DC4 NAK SYN ETB CAN EM  SUB ESC FS  GS  RS  US  SP  DEL ";
    private static final int CODE_FIELD = 4;
    private static final int CODE_COUNT = 34;
    private static final int DELETE_CODE = 127;

    /** Greater than every radix, so that what is no figure ends each run of figures. */
    private static final int NO_FIGURE = 99;

    private final Source source;
    private final LiterateLines literateLines;
    private final Lexemes lexemes;
    private final Comments comments;
    private final Reader reader;
    private final Laid laid;
    private final Layout layout;
    private final Printer printer;
    private boolean isRead;

    public LayoutTokens() {
        source = new Source();
        literateLines = new LiterateLines(source);
        lexemes = new Lexemes(source);
        comments = new Comments();
        reader = new Reader(source, lexemes, comments);
        laid = new Laid(source);
        layout = new Layout(source, lexemes, laid);
        printer = new Printer(lexemes, laid);
        isRead = false;
    }

    public int octets(int n, long octets) {
        if (n < 1 || n > 8 || source.size() + n > MOST_OCTETS) {
            return NONE;
        }
        for (int i = 0; i < n; i++) {
            source.append((int) (octets >>> (8 * i)) & 255);
        }
        return source.size();
    }

    public int read(boolean literate) {
        forget();
        int answer = literate ? literateLines.count() : source.countAll();
        if (answer >= 0) {
            answer = reader.readAll();
        }
        if (answer >= 0) {
            answer = layout.layAll();
        }
        if (answer < 0) {
            forget();
            return answer;
        }
        isRead = true;
        return answer;
    }

    public int token(int k, int what) {
        if (!laid.has(k)) {
            return NONE;
        }
        switch (what) {
            case 0:
                return laid.kindOf(k);
            case 1:
                return laid.placeOf(k);
            case 2:
                return lexemes.sizeOf(laid.lexemeOf(k));
            case 3:
                return laid.lineOf(k);
            case 4:
                return laid.columnOf(k);
            case 5:
                return lexemes.signCountOf(laid.lexemeOf(k));
            default:
                return NONE;
        }
    }

    public int sign(int k, int i) {
        return lexemes.signOf(laid.lexemeOf(k), i);
    }

    public long number(int k) {
        return lexemes.valueOf(laid.lexemeOf(k));
    }

    public boolean asked(int k) {
        return laid.isAsked(k);
    }

    public int column(int place) {
        return source.columnAt(place);
    }

    public int comment(int k, int what) {
        return comments.tell(k, what);
    }

    public int print() {
        return isRead ? printer.writeAll() : NONE;
    }

    public int letter(int i) {
        return printer.letterAt(i);
    }

    public int back() {
        if (printer.count() == NONE) {
            return NONE;
        }
        source.empty();
        forget();
        for (int i = 0; i < printer.count() && i < MOST_OCTETS; i++) {
            source.append(printer.letterAt(i));
        }
        return source.size();
    }

    public int told(int what) {
        switch (what) {
            case 0:
                return source.size();
            case 1:
                return laid.count();
            case 2:
                return laid.countPutIn();
            case 3:
                return laid.countAsked();
            case 4:
                return comments.count();
            case 5:
                return comments.deepest();
            case 6:
                return isRead ? 1 : 0;
            default:
                return NONE;
        }
    }

    public int clear() {
        int size = source.size();
        source.empty();
        forget();
        return size;
    }

    private void forget() {
        isRead = false;
        laid.empty();
        lexemes.empty();
        comments.empty();
    }

    private static int faultAt(int place) {
        return -2 - place;
    }

    private static boolean isLineEnd(int octet) {
        return octet == 10 || octet == 13;
    }

    private static boolean isBlank(int octet) {
        return octet == 32 || (octet >= 9 && octet <= 13);
    }

    private static boolean isSmall(int octet) {
        return (octet >= 'a' && octet <= 'z') || octet == '_';
    }

    private static boolean isLarge(int octet) {
        return octet >= 'A' && octet <= 'Z';
    }

    private static boolean isFigure(int octet) {
        return octet >= '0' && octet <= '9';
    }

    private static boolean isNamePart(int octet) {
        return (octet >= 'a' && octet <= 'z') || (octet >= 'A' && octet <= 'Z')
                || (octet >= '0' && octet <= '9') || octet == '_' || octet == '\'';
    }

    private static boolean isSymbol(int octet) {
        switch (octet) {
            case '!': case '#': case '$': case '%': case '&': case '*': case '+':
            case '.': case '/': case '<': case '=': case '>': case '?': case '@':
            case '\\': case '^': case '|': case '-': case '~': case ':':
                return true;
            default:
                return false;
        }
    }

    private static boolean isSpecial(int octet) {
        switch (octet) {
            case '(': case ')': case '[': case ']': case ',': case ';': case '`':
            case '{': case '}':
                return true;
            default:
                return false;
        }
    }

    private static boolean isPrintable(int octet) {
        return octet >= 32 && octet <= 126;
    }

    private static int figureOf(int octet) {
        if (octet >= '0' && octet <= '9') {
            return octet - '0';
        }
        if (octet >= 'a' && octet <= 'f') {
            return octet - 'a' + 10;
        }
        if (octet >= 'A' && octet <= 'F') {
            return octet - 'A' + 10;
        }
        return NO_FIGURE;
    }

    /**
     * THE TEXT, and how its octets count in the reading at hand. LINE and COLUMN of an octet depend
     * on the octets up to it alone, so they are kept when it comes.
     */
    private static final class Source {
        private final int[] octets;
        private final int[] lines;
        private final int[] columns;
        private final int[] counted;
        private int size;

        Source() {
            octets = new int[MOST_OCTETS];
            lines = new int[MOST_OCTETS];
            columns = new int[MOST_OCTETS];
            counted = new int[MOST_OCTETS];
            size = 0;
        }

        int size() {
            return size;
        }

        boolean has(int place) {
            return place >= 0 && place < size && place < MOST_OCTETS;
        }

        void empty() {
            size = 0;
        }

        void append(int octet) {
            if (size < 0 || size >= MOST_OCTETS) {
                return;
            }
            int line = 1;
            int column = 1;
            if (size > 0) {
                int before = octets[size - 1];
                boolean begins = before == 10 || (before == 13 && octet != 10);
                line = begins ? lines[size - 1] + 1 : lines[size - 1];
                column = begins ? 1 : columnBehind(before, columns[size - 1]);
            }
            octets[size] = octet;
            lines[size] = line;
            columns[size] = column;
            size++;
        }

        private int columnBehind(int octet, int column) {
            return octet == 9 ? ((column - 1) / 8 + 1) * 8 + 1 : column + 1;
        }

        int octetAt(int place) {
            return has(place) ? octets[place] : NONE;
        }

        int lineAt(int place) {
            return has(place) ? lines[place] : NONE;
        }

        int columnAt(int place) {
            return has(place) ? columns[place] : NONE;
        }

        int lastLine() {
            return size > 0 ? lineAt(size - 1) : 1;
        }

        int countedAt(int place) {
            return place >= 0 && place < size && place < MOST_OCTETS ? counted[place] : NONE;
        }

        void countAs(int place, int octet) {
            if (has(place)) {
                counted[place] = octet;
            }
        }

        int countAll() {
            for (int i = 0; i < size && i < MOST_OCTETS; i++) {
                counted[i] = octets[i];
            }
            return size;
        }
    }

    /** Settles how the octets of a LITERATE text count. */
    private static final class LiterateLines {
        private static final int EMPTY_TEXT = 0;
        private static final int FULL_TEXT = 1;
        private static final int CODE = 2;

        private final Source source;

        LiterateLines(Source source) {
            this.source = source;
        }

        /** The size, or a FAULT. */
        int count() {
            boolean hasCode = false;
            int before = EMPTY_TEXT;
            int startBefore = 0;
            int start = 0;
            for (int n = 0; n < MOST_OCTETS && start < source.size(); n++) {
                int behind = lineEnd(start);
                int sort = sortOf(start, behind);
                if (before == CODE && sort == FULL_TEXT) {
                    return faultAt(start);
                }
                if (before == FULL_TEXT && sort == CODE) {
                    return faultAt(startBefore);
                }
                countLine(start, behind, sort == CODE);
                hasCode = hasCode || sort == CODE;
                before = sort;
                startBefore = start;
                start = behind;
            }
            return hasCode ? source.size() : faultAt(source.size());
        }

        /** The place where the next LINE begins. */
        private int lineEnd(int start) {
            int behind = start + 1;
            while (behind < source.size() && source.lineAt(behind) == source.lineAt(start)) {
                behind++;
            }
            return behind;
        }

        private int sortOf(int start, int behind) {
            if (source.octetAt(start) == '>') {
                return CODE;
            }
            for (int i = start; i < behind; i++) {
                if (!isBlank(source.octetAt(i))) {
                    return FULL_TEXT;
                }
            }
            return EMPTY_TEXT;
        }

        /** The ends of LINES stay as they are, else the COLUMNS of the next LINE would be lost. */
        private void countLine(int start, int behind, boolean isCode) {
            for (int i = start; i < behind; i++) {
                int octet = source.octetAt(i);
                boolean stays = isLineEnd(octet) || (isCode && i > start);
                source.countAs(i, stays ? octet : 32);
            }
        }
    }

    /** The tokens as they are read, before the layout, and their SIGNS in one row. */
    private static final class Lexemes {
        private final Source source;
        private final int[] kinds;
        private final int[] places;
        private final int[] sizes;
        private final int[] marks;
        private final long[] values;
        private final int[] firstSigns;
        private final int[] signCounts;
        private final int[] signs;
        private int count;
        private int signsKept;

        Lexemes(Source source) {
            this.source = source;
            kinds = new int[MOST_OCTETS];
            places = new int[MOST_OCTETS];
            sizes = new int[MOST_OCTETS];
            marks = new int[MOST_OCTETS];
            values = new long[MOST_OCTETS];
            firstSigns = new int[MOST_OCTETS];
            signCounts = new int[MOST_OCTETS];
            signs = new int[MOST_OCTETS];
            count = 0;
            signsKept = 0;
        }

        void empty() {
            count = 0;
            signsKept = 0;
        }

        int count() {
            return count;
        }

        boolean has(int k) {
            return k >= 0 && k < count && k < MOST_OCTETS;
        }

        void addSign(int code) {
            if (signsKept >= 0 && signsKept < MOST_OCTETS) {
                signs[signsKept] = code;
                signsKept++;
            }
        }

        /** A token whose SIGNS are its octets; answers the place behind it. */
        int addPlain(int kind, int place, int behind, int mark, long value) {
            int first = signsKept;
            for (int i = place; i < behind; i++) {
                addSign(source.countedAt(i));
            }
            return addWithSigns(kind, place, behind, first, mark, value);
        }

        /** A token whose SIGNS are kept already, from first on; answers the place behind it. */
        int addWithSigns(int kind, int place, int behind, int first, int mark, long value) {
            if (count >= 0 && count < MOST_OCTETS) {
                kinds[count] = kind;
                places[count] = place;
                sizes[count] = behind - place;
                marks[count] = mark;
                values[count] = value;
                firstSigns[count] = first;
                signCounts[count] = signsKept - first;
                count++;
            }
            return behind;
        }

        int signsKept() {
            return signsKept;
        }

        int kindOf(int k) {
            return has(k) ? kinds[k] : NONE;
        }

        int placeOf(int k) {
            return has(k) ? places[k] : NONE;
        }

        int sizeOf(int k) {
            return has(k) ? sizes[k] : 0;
        }

        /** The number of a WORD, the octet of a SPECIAL one (above all WORDS' numbers), or NONE. */
        int markOf(int k) {
            return has(k) ? marks[k] : NONE;
        }

        long valueOf(int k) {
            return has(k) ? values[k] : 0L;
        }

        int signCountOf(int k) {
            return has(k) ? signCounts[k] : 0;
        }

        int signOf(int k, int i) {
            if (!has(k) || i < 0 || i >= signCounts[k]) {
                return NONE;
            }
            int at = firstSigns[k] + i;
            return at >= 0 && at < MOST_OCTETS ? signs[at] : NONE;
        }
    }

    private static final class Comments {
        private final int[] places;
        private final int[] sizes;
        private final int[] nested;
        private int count;
        private int deepest;

        Comments() {
            places = new int[MOST_COMMENTS];
            sizes = new int[MOST_COMMENTS];
            nested = new int[MOST_COMMENTS];
            count = 0;
            deepest = 0;
        }

        void empty() {
            count = 0;
            deepest = 0;
        }

        int count() {
            return count;
        }

        int deepest() {
            return deepest;
        }

        /** Depth 0 is that of a COMMENT up to the end of its LINE. */
        int add(int place, int behind, int depth) {
            if (count >= 0 && count < MOST_COMMENTS) {
                places[count] = place;
                sizes[count] = behind - place;
                nested[count] = depth > 0 ? 1 : 0;
                count++;
                deepest = Math.max(deepest, depth);
            }
            return behind;
        }

        int tell(int k, int what) {
            if (k < 0 || k >= count || k >= MOST_COMMENTS) {
                return NONE;
            }
            switch (what) {
                case 0:
                    return places[k];
                case 1:
                    return sizes[k];
                case 2:
                    return nested[k];
                default:
                    return NONE;
            }
        }
    }

    /** Reads the counted octets to tokens and COMMENTS. */
    private static final class Reader {
        private final Source source;
        private final Lexemes lexemes;
        private final Comments comments;
        private final Quotes quotes;

        Reader(Source source, Lexemes lexemes, Comments comments) {
            this.source = source;
            this.lexemes = lexemes;
            this.comments = comments;
            this.quotes = new Quotes(source, lexemes);
        }

        int readAll() {
            int at = 0;
            for (int n = 0; n < MOST_OCTETS && at >= 0 && at < source.size(); n++) {
                at = readOne(at);
            }
            return at;
        }

        private int readOne(int at) {
            int octet = source.countedAt(at);
            if (isBlank(octet)) {
                return at + 1;
            }
            if (octet == '{' && source.countedAt(at + 1) == '-') {
                return readNestedComment(at);
            }
            if (isLarge(octet)) {
                return readLargeName(at);
            }
            if (isSmall(octet)) {
                return readSmallName(at);
            }
            if (isSymbol(octet)) {
                return readSymbols(at);
            }
            if (isFigure(octet)) {
                return readNumber(at);
            }
            if (isSpecial(octet)) {
                return lexemes.addPlain(SPECIAL, at, at + 1, octet, 0L);
            }
            if (octet == '\'') {
                return quotes.readCharacter(at);
            }
            return octet == '"' ? quotes.readText(at) : faultAt(at);
        }

        private int readNestedComment(int at) {
            int depth = 0;
            int most = 0;
            for (int i = at; i < source.size(); i++) {
                int octet = source.countedAt(i);
                int next = source.countedAt(i + 1);
                if (octet == '{' && next == '-') {
                    depth++;
                    most = Math.max(most, depth);
                    i++;
                } else if (octet == '-' && next == '}') {
                    depth--;
                    i++;
                }
                if (depth > DEEPEST_COMMENT) {
                    return faultAt(i - 1);
                }
                if (depth == 0) {
                    return comments.add(at, i + 1, most);
                }
            }
            return faultAt(at);
        }

        private int readSymbols(int at) {
            int behind = symbolsEnd(at);
            if (behind - at >= 2 && isDashes(at, behind)) {
                return comments.add(at, lineEnd(behind), 0);
            }
            return lexemes.addPlain(operatorKind(at, behind), at, behind, NONE, 0L);
        }

        private int lineEnd(int at) {
            int end = at;
            while (end < source.size() && !isLineEnd(source.countedAt(end))) {
                end++;
            }
            return end;
        }

        private int symbolsEnd(int at) {
            int end = at;
            while (end < source.size() && isSymbol(source.countedAt(end))) {
                end++;
            }
            return end;
        }

        private boolean isDashes(int at, int behind) {
            for (int i = at; i < behind; i++) {
                if (source.countedAt(i) != '-') {
                    return false;
                }
            }
            return true;
        }

        private int operatorKind(int at, int behind) {
            int first = source.countedAt(at);
            boolean isKept = false;
            if (behind - at == 1) {
                isKept = first == ':' || first == '=' || first == '\\' || first == '|'
                        || first == '@' || first == '~';
            } else if (behind - at == 2) {
                int second = source.countedAt(at + 1);
                isKept = (first == '.' && second == '.') || (first == ':' && second == ':')
                        || (first == '<' && second == '-') || (first == '-' && second == '>')
                        || (first == '=' && second == '>');
            }
            if (isKept) {
                return KEPT_OPERATOR;
            }
            return first == ':' ? COLON_OPERATOR : OPERATOR;
        }

        private int nameEnd(int at) {
            int end = at;
            while (end < source.size() && isNamePart(source.countedAt(end))) {
                end++;
            }
            return end;
        }

        private int readSmallName(int at) {
            int behind = nameEnd(at);
            int word = wordAt(at, behind);
            return lexemes.addPlain(word == NONE ? SMALL : WORD, at, behind, word, 0L);
        }

        private int wordAt(int at, int behind) {
            for (int k = 0; k < WORD_COUNT; k++) {
                if (isWord(k, at, behind)) {
                    return k;
                }
            }
            return NONE;
        }

        private boolean isWord(int k, int at, int behind) {
            int first = k * WORD_FIELD;
            int size = behind - at;
            boolean fits = size > 0 && size < WORD_FIELD;
            if (!fits || first < 0 || first + size >= WORDS.length()) {
                return false;
            }
            for (int i = 0; i < size; i++) {
                if (WORDS.charAt(first + i) != source.countedAt(at + i)) {
                    return false;
                }
            }
            return WORDS.charAt(first + size) == ' ';
        }

        /** A large NAME, or the QUALIFIED one that begins with it. */
        private int readLargeName(int at) {
            int behind = nameEnd(at);
            int kind = LARGE;
            for (int n = 0; n < MOST_OCTETS && source.countedAt(behind) == '.'; n++) {
                int part = behind + 1;
                int octet = source.countedAt(part);
                if (isLarge(octet)) {
                    kind = QUALIFIED_LARGE;
                    behind = nameEnd(part);
                    continue;
                }
                int partEnd = isSmall(octet) ? nameEnd(part) : symbolsEnd(part);
                if (isSmall(octet) && wordAt(part, partEnd) == NONE) {
                    kind = QUALIFIED_SMALL;
                    behind = partEnd;
                } else if (isSymbol(octet) && canBeQualified(part, partEnd)) {
                    kind = QUALIFIED_OPERATOR;
                    behind = partEnd;
                }
                break;
            }
            return lexemes.addPlain(kind, at, behind, NONE, 0L);
        }

        private boolean canBeQualified(int at, int behind) {
            boolean isComment = behind - at >= 2 && isDashes(at, behind);
            return !isComment && operatorKind(at, behind) != KEPT_OPERATOR;
        }

        private int readNumber(int at) {
            int radix = radixAt(at);
            int first = radix == 10 ? at : at + 2;
            int behind = figuresEnd(first, radix);
            if (radix == 10) {
                int brokenEnd = brokenEnd(behind);
                if (brokenEnd > behind) {
                    return lexemes.addPlain(BROKEN_NUMBER, at, brokenEnd, NONE, 0L);
                }
            }
            long value = 0L;
            for (int i = first; i < behind; i++) {
                value = value * radix + figureOf(source.countedAt(i));
            }
            return lexemes.addPlain(WHOLE_NUMBER, at, behind, NONE, value);
        }

        /** Ten where the letter behind a 0 has none of its figures: the 0 stands alone then. */
        private int radixAt(int at) {
            if (source.countedAt(at) != '0') {
                return 10;
            }
            int letter = source.countedAt(at + 1);
            int radix = 10;
            if (letter == 'x' || letter == 'X') {
                radix = 16;
            } else if (letter == 'o' || letter == 'O') {
                radix = 8;
            } else if (letter == 'b' || letter == 'B') {
                radix = 2;
            }
            return figureOf(source.countedAt(at + 2)) < radix ? radix : 10;
        }

        private int figuresEnd(int at, int radix) {
            int end = at;
            while (end < source.size() && figureOf(source.countedAt(end)) < radix) {
                end++;
            }
            return end;
        }

        /** Behind the figures of a NUMBER: the place behind its . and e parts, if it has any. */
        private int brokenEnd(int at) {
            int end = at;
            if (source.countedAt(end) == '.' && isFigure(source.countedAt(end + 1))) {
                end = figuresEnd(end + 1, 10);
            }
            int letter = source.countedAt(end);
            if (letter != 'e' && letter != 'E') {
                return end;
            }
            int signOctet = source.countedAt(end + 1);
            int first = signOctet == '+' || signOctet == '-' ? end + 2 : end + 1;
            int behind = figuresEnd(first, 10);
            return behind > first ? behind : end;
        }
    }

    /** Reads CHARACTERS and TEXTS. */
    private static final class Quotes {
        private final Source source;
        private final Lexemes lexemes;

        Quotes(Source source, Lexemes lexemes) {
            this.source = source;
            this.lexemes = lexemes;
        }

        int readCharacter(int at) {
            int first = lexemes.signsKept();
            int octet = source.countedAt(at + 1);
            int behind = at + 2;
            if (octet == '\\') {
                behind = readEscape(at + 1, false);
            } else if (isPrintable(octet) && octet != '\'') {
                lexemes.addSign(octet);
            } else {
                behind = faultAt(at + 1);
            }
            if (behind < 0) {
                return behind;
            }
            if (source.countedAt(behind) != '\'') {
                return faultAt(behind);
            }
            return lexemes.addWithSigns(CHARACTER, at, behind + 1, first, NONE, 0L);
        }

        int readText(int at) {
            int first = lexemes.signsKept();
            int behind = at + 1;
            for (int n = 0; n < MOST_OCTETS && behind >= 0 && behind < source.size(); n++) {
                int octet = source.countedAt(behind);
                if (octet == '"') {
                    return lexemes.addWithSigns(TEXT, at, behind + 1, first, NONE, 0L);
                }
                if (octet == '\\') {
                    boolean isGap = isBlank(source.countedAt(behind + 1));
                    behind = isGap ? readGap(behind) : readEscape(behind, true);
                } else if (isPrintable(octet)) {
                    lexemes.addSign(octet);
                    behind++;
                } else {
                    return faultAt(behind);
                }
            }
            return behind < 0 ? behind : faultAt(source.size());
        }

        private int readGap(int at) {
            int end = at + 1;
            while (end < source.size() && isBlank(source.countedAt(end))) {
                end++;
            }
            return source.countedAt(end) == '\\' ? end + 1 : faultAt(end);
        }

        /** The ESCAPE whose \ stands at that place. */
        private int readEscape(int at, boolean inText) {
            int octet = source.countedAt(at + 1);
            if (isFigure(octet)) {
                return readCode(at, at + 1, 10);
            }
            if (octet == 'o') {
                return readCode(at, at + 2, 8);
            }
            if (octet == 'x') {
                return readCode(at, at + 2, 16);
            }
            if (octet == '&' && inText) {
                return at + 2;
            }
            if (octet == '^') {
                return readControl(at);
            }
            int code = codeOfLetter(octet);
            if (code != NONE) {
                lexemes.addSign(code);
                return at + 2;
            }
            return readCodeName(at);
        }

        private int readCode(int at, int first, int radix) {
            int value = 0;
            int end = first;
            while (end < source.size() && figureOf(source.countedAt(end)) < radix) {
                int longer = value * radix + figureOf(source.countedAt(end));
                value = Math.min(longer, GREATEST_CODE + 1);
                end++;
            }
            if (end == first) {
                return faultAt(at + 1);
            }
            if (value > GREATEST_CODE) {
                return faultAt(end - 1);
            }
            lexemes.addSign(value);
            return end;
        }

        private int readControl(int at) {
            int octet = source.countedAt(at + 2);
            if (octet < '@' || octet > '_') {
                return faultAt(at + 1);
            }
            lexemes.addSign(octet & 31);
            return at + 3;
        }

        private int codeOfLetter(int octet) {
            switch (octet) {
                case 'a':
                    return 7;
                case 'b':
                    return 8;
                case 'f':
                    return 12;
                case 'n':
                    return 10;
                case 'r':
                    return 13;
                case 't':
                    return 9;
                case 'v':
                    return 11;
                case '\\': case '"': case '\'':
                    return octet;
                default:
                    return NONE;
            }
        }

        private int readCodeName(int at) {
            for (int k = 0; k < CODE_COUNT; k++) {
                int field = k * CODE_FIELD;
                if (field + CODE_FIELD > CODE_NAMES.length()) {
                    break;
                }
                int size = CODE_NAMES.charAt(field + 2) == ' ' ? 2 : 3;
                boolean isSame = true;
                for (int i = 0; i < size; i++) {
                    char letter = CODE_NAMES.charAt(field + i);
                    isSame = isSame && letter == source.countedAt(at + 1 + i);
                }
                if (isSame) {
                    lexemes.addSign(k == CODE_COUNT - 1 ? DELETE_CODE : k);
                    return at + 1 + size;
                }
            }
            return faultAt(at + 1);
        }
    }

    /**
     * The TOKENS with those PUT IN; a token that was read points to its lexeme. LINE and COLUMN are
     * the source's, but for the end: there they stay as they were when it was read, whatever octets
     * come behind.
     */
    private static final class Laid {
        private final Source source;
        private final int[] lexemes;
        private final int[] kinds;
        private final int[] places;
        private final boolean[] askedOnes;
        private int count;
        private int putInCount;
        private int askedCount;
        private int end;
        private int endLine;

        Laid(Source source) {
            this.source = source;
            lexemes = new int[MOST_TOKENS];
            kinds = new int[MOST_TOKENS];
            places = new int[MOST_TOKENS];
            askedOnes = new boolean[MOST_TOKENS];
            count = 0;
            putInCount = 0;
            askedCount = 0;
            end = NONE;
            endLine = NONE;
        }

        void empty() {
            count = 0;
            putInCount = 0;
            askedCount = 0;
        }

        void keepEnd() {
            end = source.size();
            endLine = source.lastLine();
        }

        /** Whether there was room for it. */
        boolean add(int lexeme, int kind, int place, boolean isAsked) {
            if (count < 0 || count >= MOST_TOKENS) {
                return false;
            }
            lexemes[count] = lexeme;
            kinds[count] = kind;
            places[count] = place;
            askedOnes[count] = isAsked;
            count++;
            putInCount += lexeme == NONE ? 1 : 0;
            askedCount += isAsked ? 1 : 0;
            return true;
        }

        boolean has(int k) {
            return k >= 0 && k < count && k < MOST_TOKENS;
        }

        int count() {
            return count;
        }

        int countPutIn() {
            return putInCount;
        }

        int countAsked() {
            return askedCount;
        }

        int lexemeOf(int k) {
            return has(k) ? lexemes[k] : NONE;
        }

        int kindOf(int k) {
            return has(k) ? kinds[k] : NONE;
        }

        int placeOf(int k) {
            return has(k) ? places[k] : NONE;
        }

        int lineOf(int k) {
            int place = placeOf(k);
            return place == end ? endLine : source.lineAt(place);
        }

        int columnOf(int k) {
            int place = placeOf(k);
            return place == end ? 0 : source.columnAt(place);
        }

        boolean isAsked(int k) {
            return has(k) && askedOnes[k];
        }
    }

    /**
     * Goes through the lexemes and lays the TOKENS. Every FAULT that a token brings lies at that
     * token, so it is enough to note that there was one.
     */
    private static final class Layout {
        private static final int BLOCK = 0;
        private static final int BRACE = 1;
        private static final int ROUND = 2;
        private static final int SQUARE = 3;
        private static final int IF_ITEM = 4;
        private static final int THEN_ITEM = 5;
        private static final int CASE_ITEM = 6;

        private final Source source;
        private final Lexemes lexemes;
        private final Laid laid;
        private final int[] itemSorts;
        private final int[] itemColumns;
        private final boolean[] itemLets;
        private int depth;
        private int place;
        private int line;
        private int column;
        private int letBraceEnd;
        private boolean letIsOver;
        private boolean isFaulty;

        Layout(Source source, Lexemes lexemes, Laid laid) {
            this.source = source;
            this.lexemes = lexemes;
            this.laid = laid;
            itemSorts = new int[MOST_ITEMS];
            itemColumns = new int[MOST_ITEMS];
            itemLets = new boolean[MOST_ITEMS];
        }

        /** How many TOKENS there are, or a FAULT. */
        int layAll() {
            depth = 0;
            letBraceEnd = NONE;
            isFaulty = false;
            for (int k = 0; k < lexemes.count(); k++) {
                goThrough(k);
                if (isFaulty) {
                    return faultAt(lexemes.placeOf(k));
                }
            }
            finish();
            return isFaulty ? faultAt(source.size()) : laid.count();
        }

        private void goThrough(int k) {
            int lineBefore = line;
            place = lexemes.placeOf(k);
            line = source.lineAt(place);
            column = source.columnAt(place);
            letIsOver = k > 0 && letBraceEnd == k - 1;
            boolean isFirstOnLine = k == 0 || line != lineBefore;
            boolean isBegun = wantsBlock(k) && beginBlock(lexemes.markOf(k - 1) == LET);
            int mark = lexemes.markOf(k);
            if (!isBegun && isFirstOnLine) {
                endByColumn(mark == IN);
            }
            if (mark == IN) {
                endLet();
            } else {
                endByNeed(mark, k);
            }
            boolean hasRoom = laid.add(k, lexemes.kindOf(k), place, false);
            isFaulty = isFaulty || !hasRoom;
            int sort = itemOf(mark);
            if (sort != NONE) {
                putItem(sort, 0, sort == BRACE && lexemes.markOf(k - 1) == LET);
            }
        }

        private boolean wantsBlock(int k) {
            int mark = lexemes.markOf(k);
            boolean isCalledFor = k == 0 ? mark != MODULE : isOpener(lexemes.markOf(k - 1));
            return isCalledFor && mark != '{';
        }

        private boolean isOpener(int mark) {
            return mark == LET || mark == WHERE || mark == DO || mark == OF;
        }

        /** Whether a BLOCK begins; else { and } are PUT IN. */
        private boolean beginBlock(boolean isLet) {
            putIn(PUT_OPEN, false);
            if (column > columnAround()) {
                putItem(BLOCK, column, isLet);
                return true;
            }
            closeEmpty();
            letIsOver = letIsOver || isLet;
            return false;
        }

        private void closeEmpty() {
            isFaulty = isFaulty || depth >= MOST_ITEMS;
            putIn(PUT_CLOSE, false);
        }

        private int columnAround() {
            for (int i = depth - 1; i >= 0 && i < MOST_ITEMS; i--) {
                if (itemSorts[i] == BLOCK) {
                    return itemColumns[i];
                }
                if (itemSorts[i] == BRACE) {
                    return 0;
                }
            }
            return 0;
        }

        private void endByColumn(boolean isIn) {
            boolean isLetEnded = false;
            for (int n = 0; n < MOST_ITEMS && topColumn() > column; n++) {
                isLetEnded = isLetEnded || isLetAt(depth - 1);
                endDownTo(depth - 1, false);
                if (isIn && isLetEnded) {
                    break;
                }
            }
            letIsOver = letIsOver || isLetEnded;
            if (topColumn() == column && !(isIn && isLetEnded)) {
                putIn(PUT_SEMICOLON, false);
            }
        }

        /** The COLUMN of the uppermost ITEM if it is a BLOCK, else NONE, which is below all. */
        private int topColumn() {
            int top = depth - 1;
            boolean isBlock = top >= 0 && top < MOST_ITEMS && itemSorts[top] == BLOCK;
            return isBlock ? itemColumns[top] : NONE;
        }

        private boolean isLetAt(int i) {
            return i >= 0 && i < MOST_ITEMS && itemLets[i];
        }

        private int sortAt(int i) {
            return i >= 0 && i < MOST_ITEMS ? itemSorts[i] : NONE;
        }

        /** The uppermost ITEM that is no BLOCK, or NONE. */
        private int uppermostOther() {
            int i = depth - 1;
            while (i >= 0 && sortAt(i) == BLOCK) {
                i--;
            }
            return i;
        }

        private void endByNeed(int mark, int k) {
            int other = uppermostOther();
            int sort = sortAt(other);
            boolean isMet = mark == ','
                    ? sort == ROUND || sort == SQUARE
                    : sort != NONE && sort == needOf(mark);
            if (!isMet) {
                isFaulty = isFaulty || mark == '}';
                return;
            }
            endDownTo(other + 1, true);
            if (mark == ',') {
                return;
            }
            if (mark == '}' && isLetAt(other)) {
                letBraceEnd = k;
            }
            depth = other;
        }

        private int needOf(int mark) {
            switch (mark) {
                case ')':
                    return ROUND;
                case ']':
                    return SQUARE;
                case '}':
                    return BRACE;
                case THEN:
                    return IF_ITEM;
                case ELSE:
                    return THEN_ITEM;
                case OF:
                    return CASE_ITEM;
                default:
                    return NONE;
            }
        }

        private int itemOf(int mark) {
            switch (mark) {
                case '(':
                    return ROUND;
                case '[':
                    return SQUARE;
                case '{':
                    return BRACE;
                case IF:
                    return IF_ITEM;
                case THEN:
                    return THEN_ITEM;
                case CASE:
                    return CASE_ITEM;
                default:
                    return NONE;
            }
        }

        private void endLet() {
            if (letIsOver) {
                return;
            }
            int other = uppermostOther();
            for (int i = depth - 1; i > other; i--) {
                if (isLetAt(i)) {
                    endDownTo(i, true);
                    return;
                }
            }
        }

        /** The BLOCKS from the top down to that ITEM, itself too, are over. */
        private void endDownTo(int item, boolean isAsked) {
            for (int i = depth; i > item; i--) {
                putIn(PUT_CLOSE, isAsked);
            }
            depth = Math.max(0, Math.min(depth, item));
        }

        private void putIn(int kind, boolean isAsked) {
            boolean hasRoom = laid.add(NONE, kind, place, isAsked);
            isFaulty = isFaulty || !hasRoom;
        }

        private void putItem(int sort, int itsColumn, boolean isLet) {
            if (depth < 0 || depth >= MOST_ITEMS) {
                isFaulty = true;
                return;
            }
            itemSorts[depth] = sort;
            itemColumns[depth] = itsColumn;
            itemLets[depth] = isLet;
            depth++;
        }

        private void finish() {
            place = source.size();
            laid.keepEnd();
            int last = lexemes.count() - 1;
            if (last < 0 || isOpener(lexemes.markOf(last))) {
                putIn(PUT_OPEN, false);
                closeEmpty();
            }
            for (int n = 0; n < MOST_ITEMS && topColumn() != NONE; n++) {
                endDownTo(depth - 1, false);
            }
        }
    }

    /** Writes the TOKENS, measured first: a print() that is refused leaves the old letters. */
    private static final class Printer {
        private final Lexemes lexemes;
        private final Laid laid;
        private final int[] letters;
        private int count;
        private int at;
        private boolean isMeasuring;

        Printer(Lexemes lexemes, Laid laid) {
            this.lexemes = lexemes;
            this.laid = laid;
            letters = new int[MOST_LETTERS];
            count = NONE;
        }

        /** How many letters the latest print() had, NONE before the first. */
        int count() {
            return count;
        }

        int letterAt(int i) {
            return i >= 0 && i < count && i < MOST_LETTERS ? letters[i] : NONE;
        }

        int writeAll() {
            isMeasuring = true;
            writeTokens();
            if (at > MOST_LETTERS) {
                return NONE;
            }
            isMeasuring = false;
            writeTokens();
            count = at;
            return count;
        }

        private void writeTokens() {
            at = 0;
            for (int k = 0; k < laid.count(); k++) {
                if (k > 0) {
                    put(' ');
                }
                writeToken(k);
            }
        }

        private void writeToken(int k) {
            switch (laid.kindOf(k)) {
                case PUT_OPEN:
                    put('{');
                    break;
                case PUT_SEMICOLON:
                    put(';');
                    break;
                case PUT_CLOSE:
                    put('}');
                    break;
                case CHARACTER:
                    writeQuoted(laid.lexemeOf(k), '\'');
                    break;
                case TEXT:
                    writeQuoted(laid.lexemeOf(k), '"');
                    break;
                default:
                    writeSigns(laid.lexemeOf(k));
                    break;
            }
        }

        private void writeSigns(int lexeme) {
            for (int i = 0; i < lexemes.signCountOf(lexeme); i++) {
                put(lexemes.signOf(lexeme, i));
            }
        }

        private void writeQuoted(int lexeme, int quote) {
            put(quote);
            for (int i = 0; i < lexemes.signCountOf(lexeme); i++) {
                int code = lexemes.signOf(lexeme, i);
                if (isPrintable(code) && code != quote && code != '\\') {
                    put(code);
                } else {
                    writeEscape(code, quote == '"');
                }
            }
            put(quote);
        }

        private void writeEscape(int code, boolean inText) {
            put('\\');
            int power = 1;
            for (int n = 0; n < 7 && power <= code / 10; n++) {
                power *= 10;
            }
            for (int n = 0; n < 8 && power > 0; n++) {
                put('0' + code / power % 10);
                power /= 10;
            }
            if (inText) {
                put('\\');
                put('&');
            }
        }

        private void put(int letter) {
            if (!isMeasuring && at >= 0 && at < MOST_LETTERS) {
                letters[at] = letter;
            }
            at++;
        }
    }
}
