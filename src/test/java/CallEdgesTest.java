/** The edges of the promises' own sentences: arguments too small and too large, and refused calls. */
public final class CallEdgesTest {
    private static final Checks CHECKS = new Checks();
    private static final int LEAST = Integer.MIN_VALUE;
    private static final int GREATEST = Integer.MAX_VALUE;
    private static final String PROGRAM = "f = (do 'a') -- c\n  {- {- -} -} \"\\n\"\n0x1F";

    public static void main(String[] args) {
        nothingRead();
        octetsOfEveryNumber();
        octetsOutside();
        octetsBehindTheText();
        readAnew();
        readOverAndOver();
        readAsANewObjectWould();
        readWithFault();
        tokenOutside();
        tokenOfEveryKind();
        signOutside();
        numberOfOthers();
        askedOutside();
        columnOutside();
        commentOutside();
        commentsByPlaces();
        printWhenNothingIsRead();
        printOfCodes();
        printOfTheMost();
        letterOutside();
        letterOfTheLatest();
        backWhenNothingWasPrinted();
        backIsCut();
        backIsNotRead();
        toldOutside();
        toldDepth();
        clearAnswers();
        refusedCallsChangeNothing();
        objectsAreApart();
        CHECKS.end();
    }

    /** Promise 1: an empty TEXT, nothing read. */
    private static void nothingRead() {
        LayoutTokens x = new LayoutTokens();
        dueNothingRead(x);
        CHECKS.due("told(0)", x.told(0), 0);
        CHECKS.due("letter(0)", x.letter(0), -1);
        CHECKS.due("read of an empty TEXT", x.read(false), 2);
        CHECKS.due("told(6)", x.told(6), 1);
        CHECKS.due("NONE", LayoutTokens.NONE, -1);
    }

    private static void dueNothingRead(LayoutTokens x) {
        for (int what = 1; what <= 6; what++) {
            CHECKS.due("told(" + what + ") when nothing is read", x.told(what), 0);
        }
        for (int what = 0; what <= 5; what++) {
            CHECKS.due("token(0, " + what + ") when nothing is read", x.token(0, what), -1);
        }
        CHECKS.due("sign(0, 0)", x.sign(0, 0), -1);
        CHECKS.due("number(0)", x.number(0), 0L);
        CHECKS.due("asked(0)", x.asked(0), false);
        for (int what = 0; what <= 2; what++) {
            CHECKS.due("comment(0, " + what + ") when nothing is read", x.comment(0, what), -1);
        }
        CHECKS.due("print()", x.print(), -1);
    }

    /** Promise 2: the n lowest octets of a long, the lowest first. */
    private static void octetsOfEveryNumber() {
        String letters = "abcdefgh";
        for (int n = 1; n <= 8; n++) {
            LayoutTokens x = new LayoutTokens();
            CHECKS.due("octets(" + n + ", ..)", x.octets(n, 0x6867666564636261L), n);
            x.read(false);
            CHECKS.due("they are", Checks.signs(x, 1), letters.substring(0, n));
            LayoutTokens y = new LayoutTokens();
            CHECKS.due("octets of 255", y.octets(n, -1L), n);
            CHECKS.due("octets of 0", y.octets(n, 0L), 2 * n);
            CHECKS.due("the highest bit", y.octets(8, Long.MIN_VALUE), 2 * n + 8);
        }
        LayoutTokens z = new LayoutTokens();
        z.octets(8, 0x8020202020202020L);
        CHECKS.due("an octet of 128 is the last", z.read(false), -2 - 7);
    }

    /** NONE when n is not 1 to 8, or there would be more than 600. */
    private static void octetsOutside() {
        LayoutTokens x = Checks.of("a");
        for (int n : new int[] {LEAST, -8, -1, 0, 9, 16, 600, 601, GREATEST, GREATEST - 600}) {
            CHECKS.due("octets(" + n + ", ..)", x.octets(n, 0x6161616161616161L), -1);
        }
        CHECKS.due("told(0)", x.told(0), 1);
        for (int n = 1; n <= 8; n++) {
            LayoutTokens y = Checks.of(Checks.times(601 - n, "a"));
            CHECKS.due("octets: one too many", y.octets(n, 0L), -1);
            CHECKS.due("told(0)", y.told(0), 601 - n);
            CHECKS.due("octets: those that fit", n == 1 ? 600 : y.octets(n - 1, 0L), 600);
        }
    }

    /** They come behind THE TEXT, also behind one that was read. */
    private static void octetsBehindTheText() {
        LayoutTokens x = Checks.readOf("a");
        CHECKS.due("octets", x.octets(1, 'b'), 2);
        CHECKS.due("what was read stays", Checks.shown(x), "{ 0:a }");
        CHECKS.due("the end stays where it was", x.token(2, 1), 1);
        CHECKS.due("its COLUMN", x.token(2, 4), 0);
        CHECKS.due("told(6)", x.told(6), 1);
        CHECKS.due("column of the new octet", x.column(1), 2);
        CHECKS.due("print", x.print(), 5);
        CHECKS.due("read", x.read(false), 3);
        CHECKS.due("both", Checks.shown(x), "{ 0:ab }");
        x.print();
        x.back();
        CHECKS.due("octets behind back", x.octets(1, 'c'), 7);
        CHECKS.due("read", x.read(false), 4);
        x.clear();
        CHECKS.due("octets behind clear", x.octets(1, 'c'), 1);
    }

    /** Promise 3: read again, the answers are those of the latest. */
    private static void readAnew() {
        LayoutTokens x = Checks.of("> a {- -}");
        CHECKS.due("not LITERATE", x.read(false), 4);
        CHECKS.due("LITERATE", x.read(true), 3);
        CHECKS.due("tokens", Checks.shown(x), "{ 0:a }");
        CHECKS.due("not LITERATE again", x.read(false), 4);
        CHECKS.due("tokens", Checks.shown(x), "{ 3:> 0:a }");
        CHECKS.due("COMMENTS are not heaped", x.told(4), 1);
        CHECKS.due("nor those PUT IN", x.told(2), 2);
        x.clear();
        Checks.feed(x, "b");
        x.read(false);
        CHECKS.due("depth of the latest", x.told(5), 0);
    }

    /** What many reads leave behind takes no room from the next one. */
    private static void readOverAndOver() {
        String most = Checks.times(100, "a --\n");
        LayoutTokens x = Checks.of(most);
        LayoutTokens y = Checks.of(Checks.times(600, "b"));
        for (int round = 0; round < 20; round++) {
            CHECKS.due("read", x.read(false), 201);
            CHECKS.due("COMMENTS", x.told(4), 100);
            CHECKS.due("the last COMMENT", x.comment(99, 0), 497);
            CHECKS.due("the last SIGN", x.sign(199, 0), 'a');
            CHECKS.due("a FAULT", x.read(true), -2 - 500);
            CHECKS.due("read", y.read(false), 3);
            CHECKS.due("the last SIGN", y.sign(1, 599), 'b');
            CHECKS.due("print", y.print(), 604);
            CHECKS.due("its last letter", y.letter(603), '}');
        }
    }

    /** Whatever was read before, and whether it had a FAULT: the next read is that of a new object. */
    private static void readAsANewObjectWould() {
        String[] texts = {
            "a", Checks.times(59, "("), "}", "let {a}", "let a b c in d", "", "{a}}", "'", "{- {- -}",
            "\n\n  a\n  b", "in", Checks.times(500, ";"), "{ let {", "do\nin", "\"\\1\"", "a do",
            "if case then", "module", Checks.times(61, "["), "\u0001", "M.where", "-- a\n{- -}",
        };
        for (String before : texts) {
            for (String after : texts) {
                LayoutTokens x = Checks.of(before);
                x.read(false);
                x.clear();
                Checks.feed(x, after);
                LayoutTokens fresh = Checks.of(after);
                CHECKS.due("read of " + after + " behind " + before, x.read(false), fresh.read(false));
                CHECKS.due("all of " + after + " behind " + before, Checks.state(x), Checks.state(fresh));
            }
        }
    }

    /** -2 less the place of the FAULT (there are no TOKENS then). */
    private static void readWithFault() {
        String[] faults = {"}", "'", "\u0001", "{-", "a }", "{- -} (do a) \""};
        int[] places = {0, 1, 0, 0, 2, 14};
        for (int i = 0; i < faults.length; i++) {
            LayoutTokens x = Checks.readOf(PROGRAM);
            x.clear();
            Checks.feed(x, "a (do b) {- -}");
            CHECKS.due("read", x.read(false), 9);
            x.clear();
            Checks.feed(x, faults[i]);
            CHECKS.due("FAULT of " + faults[i], x.read(false), -2 - places[i]);
            dueNothingRead(x);
            CHECKS.due("THE TEXT stays", x.told(0), faults[i].length());
        }
        LayoutTokens y = Checks.readOf("a (do b) {- -}");
        CHECKS.due("FAULT of LITERATE", y.read(true), -2 - 14);
        dueNothingRead(y);
        CHECKS.due("COLUMNS stay", y.column(13), 14);
        CHECKS.due("the least answer", Checks.of(Checks.times(599, " ") + "'").read(false), -602);
        CHECKS.due("the least answer, LITERATE", Checks.of(Checks.times(600, " ")).read(true), -602);
        CHECKS.due("the greatest answer of a FAULT", Checks.of("").read(true), -2);
    }

    /** Promise 4: NONE: there is none such. */
    private static void tokenOutside() {
        LayoutTokens x = Checks.readOf(PROGRAM);
        int count = x.told(1);
        for (int what = 0; what <= 5; what++) {
            for (int k : new int[] {LEAST, -2, -1, count, count + 1, 499, 500, GREATEST}) {
                CHECKS.due("token(" + k + ", " + what + ")", x.token(k, what), -1);
            }
            CHECKS.due("token(0, " + what + ") is there", x.token(0, what) >= 0, true);
            CHECKS.due("the last one is there", x.token(count - 1, what) >= 0, true);
        }
        for (int what : new int[] {LEAST, -1, 6, 7, GREATEST}) {
            for (int k = 0; k < count; k++) {
                CHECKS.due("token(" + k + ", " + what + ")", x.token(k, what), -1);
            }
        }
    }

    /** Kind, place, octets, LINE, COLUMN and SIGNS of one TOKEN of each kind. */
    private static void tokenOfEveryKind() {
        LayoutTokens x = Checks.readOf("a\nA of{+ :+ :: A.a A.A A.+ 0x1\n1.5 '\\n' \"\\&ab\"}\n");
        int[][] due = {
            {14, 0, 0, 1, 1, 0}, {0, 0, 1, 1, 1, 1}, {15, 2, 0, 2, 1, 0}, {1, 2, 1, 2, 1, 1},
            {2, 4, 2, 2, 3, 2}, {13, 6, 1, 2, 5, 1}, {3, 7, 1, 2, 6, 1}, {4, 9, 2, 2, 8, 2},
            {5, 12, 2, 2, 11, 2}, {6, 15, 3, 2, 14, 3}, {7, 19, 3, 2, 18, 3}, {8, 23, 3, 2, 22, 3},
            {9, 27, 3, 2, 26, 3}, {10, 31, 3, 3, 1, 3}, {11, 35, 4, 3, 5, 1}, {12, 40, 6, 3, 10, 2},
            {13, 46, 1, 3, 16, 1}, {16, 48, 0, 3, 0, 0},
        };
        CHECKS.due("told(1)", x.told(1), due.length);
        for (int k = 0; k < due.length; k++) {
            for (int what = 0; what <= 5; what++) {
                CHECKS.due("token(" + k + ", " + what + ")", x.token(k, what), due[k][what]);
            }
            CHECKS.due("number(" + k + ")", x.number(k), k == 12 ? 1L : 0L);
            CHECKS.due("the last SIGN", x.sign(k, due[k][5] - 1) >= 0, due[k][5] > 0);
            CHECKS.due("none behind it", x.sign(k, due[k][5]), -1);
        }
    }

    /** Promise 5: NONE when there is none such. */
    private static void signOutside() {
        LayoutTokens x = Checks.readOf("ab 'c' \"\" M.d +");
        CHECKS.due("SIGNS", Checks.shown(x), "{ 0:ab 11:99 12: 6:M.d 3:+ }");
        for (int i : new int[] {LEAST, -1, 2, 3, 600, GREATEST}) {
            CHECKS.due("sign(1, " + i + ")", x.sign(1, i), -1);
        }
        for (int k : new int[] {LEAST, -1, 0, 3, 6, 7, 8, 500, GREATEST}) {
            CHECKS.due("sign(" + k + ", 0)", x.sign(k, 0), -1);
        }
        CHECKS.due("the last SIGN of one", x.sign(1, 1), 'b');
        CHECKS.due("the SIGN of a CHARACTER", x.sign(2, 0), 'c');
        CHECKS.due("no quote is a SIGN", x.sign(2, 1), -1);
        CHECKS.due("a dot is a SIGN", x.sign(4, 1), '.');
        CHECKS.due("the last of a QUALIFIED one", x.sign(4, 2), 'd');
        CHECKS.due("none behind it", x.sign(4, 3), -1);
        CHECKS.due("the greatest code", Checks.readOf("'\\1114111'").sign(1, 0), 1114111);
        CHECKS.due("the least code", Checks.readOf("'\\0'").sign(1, 0), 0);
    }

    /** Promise 6: 0 of others. */
    private static void numberOfOthers() {
        LayoutTokens x = Checks.readOf("7 7.5 7e1 a7 '7' \"7\" (");
        CHECKS.due("number of kind 9", x.number(1), 7L);
        for (int k : new int[] {LEAST, -1, 0, 2, 3, 4, 5, 6, 7, 8, 500, GREATEST}) {
            CHECKS.due("number(" + k + ")", x.number(k), 0L);
        }
        x.clear();
        CHECKS.due("number when nothing is read", x.number(1), 0L);
    }

    /** Promise 7: whether TOKEN k is a } that was ASKED. */
    private static void askedOutside() {
        LayoutTokens x = Checks.readOf("{(do a) do\n b\n c }");
        CHECKS.due("tokens", Checks.shown(x), "13:{ 13:( 2:do { 0:a }? 13:) 2:do { 0:b ; 0:c }? 13:}");
        for (int k = -1; k <= 15; k++) {
            CHECKS.due("asked(" + k + ")", x.asked(k), k == 5 || k == 12);
        }
        CHECKS.due("asked(least)", x.asked(LEAST), false);
        CHECKS.due("asked(500)", x.asked(500), false);
        CHECKS.due("asked(greatest)", x.asked(GREATEST), false);
        LayoutTokens y = Checks.readOf("do\n a\nb");
        CHECKS.due("a } that 2 put in", y.token(4, 0), 16);
        CHECKS.due("is not ASKED", y.asked(4), false);
        x.clear();
        CHECKS.due("asked when nothing is read", x.asked(5), false);
    }

    /** Promise 8: of an end of a LINE, too; NONE when there is none such. */
    private static void columnOutside() {
        LayoutTokens x = Checks.of("ab\r\nc\n");
        int[] due = {1, 2, 3, 4, 1, 2};
        for (int place = 0; place < due.length; place++) {
            CHECKS.due("column(" + place + ")", x.column(place), due[place]);
        }
        for (int place : new int[] {LEAST, -1, 6, 7, 599, 600, GREATEST}) {
            CHECKS.due("column(" + place + ")", x.column(place), -1);
        }
        LayoutTokens y = Checks.of(Checks.times(600, "a"));
        CHECKS.due("column(599) of 600", y.column(599), 600);
        CHECKS.due("column(600) of 600", y.column(600), -1);
        y.clear();
        CHECKS.due("column(0) of an empty TEXT", y.column(0), -1);
        CHECKS.due("column(599) of an empty TEXT", y.column(599), -1);
    }

    /** Promise 9: NONE: there is none such. */
    private static void commentOutside() {
        LayoutTokens x = Checks.readOf("--a\n{--}");
        for (int what = 0; what <= 2; what++) {
            for (int k : new int[] {LEAST, -1, 2, 3, 199, 200, GREATEST}) {
                CHECKS.due("comment(" + k + ", " + what + ")", x.comment(k, what), -1);
            }
        }
        for (int what : new int[] {LEAST, -1, 3, GREATEST}) {
            CHECKS.due("comment(0, " + what + ")", x.comment(0, what), -1);
            CHECKS.due("comment(1, " + what + ")", x.comment(1, what), -1);
        }
        CHECKS.due("comment of a TEXT without one", Checks.readOf("a").comment(0, 0), -1);
        x.clear();
        CHECKS.due("comment when nothing is read", x.comment(0, 0), -1);
    }

    /** Its first octet, how many octets, without the end of the LINE, whether it is one of {- -}. */
    private static void commentsByPlaces() {
        LayoutTokens x = Checks.readOf("--\r\n{-\n-}--a\r{-{--}-}\n---");
        int[][] due = {{0, 2, 0}, {4, 5, 1}, {9, 3, 0}, {13, 8, 1}, {22, 3, 0}};
        CHECKS.due("told(4)", x.told(4), due.length);
        for (int k = 0; k < due.length; k++) {
            for (int what = 0; what <= 2; what++) {
                CHECKS.due("comment(" + k + ", " + what + ")", x.comment(k, what), due[k][what]);
            }
        }
        LayoutTokens most = Checks.readOf(Checks.times(200, "--\n"));
        CHECKS.due("the most", most.told(4), 200);
        CHECKS.due("the last of them", most.comment(199, 0), 597);
        CHECKS.due("none behind it", most.comment(200, 0), -1);
        LayoutTokens pairs = Checks.readOf(Checks.times(150, "{--}"));
        CHECKS.due("the most of {- -}", pairs.told(4), 150);
        CHECKS.due("the last of them", pairs.comment(149, 1), 4);
    }

    /** Promise 10: NONE when nothing is read. */
    private static void printWhenNothingIsRead() {
        LayoutTokens x = Checks.of("a");
        CHECKS.due("print before a read", x.print(), -1);
        x.read(false);
        CHECKS.due("print", x.print(), 5);
        CHECKS.due("print again", x.print(), 5);
        x.read(true);
        CHECKS.due("print behind a FAULT", x.print(), -1);
        x.read(false);
        x.back();
        CHECKS.due("print behind back", x.print(), -1);
        x.read(false);
        x.clear();
        CHECKS.due("print behind clear", x.print(), -1);
        x.read(false);
        CHECKS.due("print of an empty TEXT", x.print(), 3);
        CHECKS.duePrint("module", "module");
    }

    /** Codes 32 to 126 but that one and \ as they are, others as \ and their value in figures, and \& behind that in TEXTS. */
    private static void printOfCodes() {
        for (int code = 0; code <= 300; code++) {
            boolean isPlain = code >= 32 && code <= 126 && code != '\\';
            String inCharacter = isPlain && code != '\'' ? "" + (char) code : "\\" + code;
            String inText = isPlain && code != '"' ? "" + (char) code : "\\" + code + "\\&";
            CHECKS.duePrint("'\\" + code + "'", "{ '" + inCharacter + "' }");
            CHECKS.duePrint("\"\\" + code + "\"", "{ \"" + inText + "\" }");
        }
        for (int code : new int[] {999, 1000, 9999, 10000, 65535, 65536, 99999, 100000, 999999, 1000000, 1114110, 1114111}) {
            CHECKS.duePrint("'\\" + code + "'", "{ '\\" + code + "' }");
            CHECKS.duePrint("\"\\" + code + "\"", "{ \"\\" + code + "\\&\" }");
        }
        CHECKS.duePrint("\"\\1\\&2\\SO\\&H\"", "{ \"\\1\\&2\\14\\&H\" }");
        CHECKS.duePrint("\"\" \"\\&\"", "{ \"\" \"\" }");
    }

    /** The longest prints that a TEXT can have are far below 3000 letters, and none is refused. */
    private static void printOfTheMost() {
        LayoutTokens x = Checks.readOf("\"" + Checks.times(299, "\\n") + "\"");
        CHECKS.due("a TEXT", x.print(), 2 + 1 + 299 * 5 + 1 + 2);
        CHECKS.due("its last letter", x.letter(1500), '}');
        LayoutTokens y = Checks.readOf("{" + Checks.times(499, ";"));
        CHECKS.due("500 TOKENS", y.print(), 999);
        LayoutTokens z = Checks.readOf("\"" + Checks.times(74, "\\1000000") + "\"");
        CHECKS.due("great codes", z.print(), 2 + 1 + 74 * 10 + 1 + 2);
    }

    /** Promise 11: NONE when there is none such. */
    private static void letterOutside() {
        LayoutTokens x = Checks.readOf("a");
        CHECKS.due("letter before a print", x.letter(0), -1);
        x.print();
        for (int i : new int[] {LEAST, -1, 5, 6, 599, 2999, 3000, GREATEST}) {
            CHECKS.due("letter(" + i + ")", x.letter(i), -1);
        }
        CHECKS.due("the letters", Checks.letters(x, 5), "{ a }");
    }

    /** Of the latest print() that was not NONE. */
    private static void letterOfTheLatest() {
        LayoutTokens x = Checks.readOf("abc");
        x.print();
        x.clear();
        CHECKS.due("clear leaves them", Checks.letters(x, 7), "{ abc }");
        CHECKS.due("a refused print", x.print(), -1);
        CHECKS.due("leaves them", Checks.letters(x, 7), "{ abc }");
        Checks.feed(x, "d");
        x.read(false);
        CHECKS.due("read leaves them", Checks.letters(x, 7), "{ abc }");
        CHECKS.due("a shorter print", x.print(), 5);
        CHECKS.due("its letters", Checks.letters(x, 5), "{ d }");
        CHECKS.due("none of the longer one", x.letter(5), -1);
        x.back();
        CHECKS.due("back leaves them", Checks.letters(x, 5), "{ d }");
    }

    /** Promise 12: NONE when nothing was printed. */
    private static void backWhenNothingWasPrinted() {
        LayoutTokens x = Checks.of("a b");
        CHECKS.due("back", x.back(), -1);
        x.print();
        CHECKS.due("back behind a refused print", x.back(), -1);
        CHECKS.due("THE TEXT stays", x.told(0), 3);
        x.read(false);
        CHECKS.due("back", x.back(), -1);
        CHECKS.due("what is read stays", Checks.shown(x), "{ 0:a 0:b }");
        x.print();
        CHECKS.due("back", x.back(), 7);
        x.print();
        CHECKS.due("back behind a refused print", x.back(), 7);
        x.clear();
        CHECKS.due("back behind clear", x.back(), 7);
    }

    /** Cut to its first 600 letters. */
    private static void backIsCut() {
        for (int size = 297; size <= 302; size++) {
            LayoutTokens x = Checks.readOf("{" + Checks.times(size - 1, ";"));
            CHECKS.due("print", x.print(), 2 * size - 1);
            CHECKS.due("back", x.back(), Math.min(600, 2 * size - 1));
            CHECKS.due("told(0)", x.told(0), Math.min(600, 2 * size - 1));
        }
        LayoutTokens x = Checks.readOf("{;" + Checks.times(298, ";") + "a");
        CHECKS.due("print", x.print(), 601);
        CHECKS.due("back", x.back(), 600);
        CHECKS.due("column(599)", x.column(599), 600);
        CHECKS.due("octets", x.octets(1, 97L), -1);
        CHECKS.due("read", x.read(false), 300);
        LayoutTokens y = Checks.readOf("\"" + Checks.times(298, "\\n") + "\"");
        y.print();
        CHECKS.due("back", y.back(), 600);
        CHECKS.due("read of a TEXT that is cut", y.read(false), -2 - 600);
        LayoutTokens z = Checks.readOf(Checks.times(596, "a"));
        CHECKS.due("print of 600", z.print(), 600);
        CHECKS.due("back", z.back(), 600);
        CHECKS.due("read", z.read(false), 3);
    }

    /** Nothing is read then. */
    private static void backIsNotRead() {
        LayoutTokens x = Checks.readOf(PROGRAM);
        x.print();
        CHECKS.due("back", x.back(), "{ f = ( do { 'a' } ) \"\\10\\&\" ; 0x1F }".length());
        dueNothingRead(x);
        CHECKS.due("COLUMNS of the new TEXT", x.column(10), 11);
        CHECKS.due("read", x.read(false), 13);
        CHECKS.due("PUT IN", x.told(2), 0);
        CHECKS.due("COMMENTS", x.told(4), 0);
        LayoutTokens y = Checks.readOf("a\nb");
        y.print();
        y.back();
        y.read(false);
        CHECKS.due("all on one LINE", y.token(3, 3), 1);
    }

    /** Promise 13: NONE: another what. */
    private static void toldOutside() {
        LayoutTokens x = Checks.readOf(PROGRAM);
        for (int what : new int[] {LEAST, -2, -1, 7, 8, GREATEST}) {
            CHECKS.due("told(" + what + ")", x.told(what), -1);
        }
        int[] due = {PROGRAM.length(), 13, 5, 1, 2, 2, 1};
        for (int what = 0; what < due.length; what++) {
            CHECKS.due("told(" + what + ")", x.told(what), due[what]);
        }
    }

    /** How deep those of {- -} were within one another at most, 0 without. */
    private static void toldDepth() {
        CHECKS.due("without", Checks.readOf("a -- {- {-\n").told(5), 0);
        CHECKS.due("one", Checks.readOf("{--}").told(5), 1);
        CHECKS.due("two beside one another", Checks.readOf("{--}{--}").told(5), 1);
        CHECKS.due("one within one", Checks.readOf("{-{--}-}").told(5), 2);
        CHECKS.due("two within one", Checks.readOf("{-{--}{--}-}").told(5), 2);
        CHECKS.due("the first is the deepest", Checks.readOf("{-{-{--}-}-} {--}").told(5), 3);
        CHECKS.due("the last is the deepest", Checks.readOf("{--} {-{-{--}-}-}").told(5), 3);
        CHECKS.due("30", Checks.readOf(Checks.times(30, "{-") + Checks.times(30, "-}")).told(5), 30);
    }

    /** Promise 14: answers how many octets there were. */
    private static void clearAnswers() {
        LayoutTokens x = Checks.readOf(Checks.times(600, "a"));
        CHECKS.due("clear", x.clear(), 600);
        dueNothingRead(x);
        CHECKS.due("told(0)", x.told(0), 0);
        CHECKS.due("column(0)", x.column(0), -1);
        CHECKS.due("clear again", x.clear(), 0);
        CHECKS.due("600 octets again", Checks.feed(x, "\t" + Checks.times(598, " ") + "b"), 600);
        CHECKS.due("their COLUMNS are new", x.column(1), 9);
        CHECKS.due("read", x.read(false), 3);
        CHECKS.due("LINE", x.token(1, 3), 1);
        CHECKS.due("clear", x.clear(), 600);
        CHECKS.due("clear of a new object", new LayoutTokens().clear(), 0);
    }

    /** A call that is refused changes nothing. */
    private static void refusedCallsChangeNothing() {
        LayoutTokens read = Checks.readOf(PROGRAM);
        read.print();
        read.octets(1, 'b');
        LayoutTokens full = Checks.readOf(Checks.times(50, "a ") + Checks.times(500, "\n"));
        LayoutTokens fresh = new LayoutTokens();
        LayoutTokens fed = Checks.of("a b");
        LayoutTokens printed = Checks.readOf("a b");
        printed.print();
        printed.clear();
        dueUnchanged("read", read);
        dueUnchanged("full", full);
        dueUnchanged("fresh", fresh);
        dueUnchanged("fed", fed);
        dueUnchanged("printed", printed);
        String before = Checks.state(full);
        CHECKS.due("octets of a full TEXT", full.octets(1, 97L), -1);
        CHECKS.due("back when nothing was printed", full.back(), -1);
        CHECKS.due("changes nothing", Checks.state(full), before);
        before = Checks.state(fed);
        CHECKS.due("print when nothing is read", fed.print(), -1);
        CHECKS.due("back when nothing was printed", fed.back(), -1);
        CHECKS.due("changes nothing", Checks.state(fed), before);
        before = Checks.state(printed);
        CHECKS.due("print when nothing is read", printed.print(), -1);
        CHECKS.due("changes nothing", Checks.state(printed), before);
    }

    private static void dueUnchanged(String name, LayoutTokens x) {
        String before = Checks.state(x);
        int[] edges = {LEAST, -1, 3000, GREATEST};
        for (int a : edges) {
            CHECKS.due("octets(" + a + ", ..)", x.octets(a, 0x6161616161616161L), -1);
            CHECKS.due("token", x.token(a, 0), -1);
            CHECKS.due("token", x.token(0, a), -1);
            CHECKS.due("sign", x.sign(0, a), -1);
            CHECKS.due("sign", x.sign(a, 0), -1);
            CHECKS.due("column", x.column(a), -1);
            CHECKS.due("comment", x.comment(a, 0), -1);
            CHECKS.due("comment", x.comment(0, a), -1);
            CHECKS.due("letter", x.letter(a), -1);
            CHECKS.due("told", x.told(a), -1);
            CHECKS.due("number", x.number(a), 0L);
            CHECKS.due("asked", x.asked(a), false);
        }
        CHECKS.due("octets(0, ..)", x.octets(0, 0x61L), -1);
        CHECKS.due("octets(9, ..)", x.octets(9, 0x61L), -1);
        CHECKS.due("what was refused changes nothing: " + name, Checks.state(x), before);
    }

    /** Two objects have nothing in common. */
    private static void objectsAreApart() {
        LayoutTokens x = Checks.readOf("a {- -} (do b)");
        x.print();
        String before = Checks.state(x);
        LayoutTokens y = Checks.readOf("\"\\1\" 0x7 -- c\n{- {- -} -}");
        y.print();
        y.back();
        y.clear();
        CHECKS.due("the other one is as it was", Checks.state(x), before);
    }
}
