/** The edges of '## Terms' and of '1 LITERATE', a method for each sentence that names one. */
public final class TextEdgesTest {
    private static final Checks CHECKS = new Checks();
    private static final int[] BLANKS = {32, 9, 11, 12, 10, 13};

    public static void main(String[] args) {
        atMostSixHundredOctets();
        endsOfLines();
        endsOfLinesInParts();
        noEndsOfLines();
        columnsAtTheBeginning();
        columnsBehindTabs();
        blanks();
        code();
        codeBehindEveryEnd();
        text();
        textBesideCode();
        theFirstSuchLine();
        emptyTextBesideCode();
        noCode();
        CHECKS.end();
    }

    /** THE TEXT has at most 600 octets. */
    private static void atMostSixHundredOctets() {
        for (int n = 1; n <= 8; n++) {
            LayoutTokens x = Checks.of(Checks.times(600 - n, " "));
            CHECKS.due("octets: one more than fits", n == 8 ? -1 : x.octets(n + 1, 0L), -1);
            CHECKS.due("told(0) then", x.told(0), 600 - n);
            CHECKS.due("octets: as many as fit", x.octets(n, 0x6161616161616161L), 600);
            CHECKS.due("octets: one more", x.octets(1, 97L), -1);
            CHECKS.due("read", x.read(false), 3);
            CHECKS.due("how many octets of the last name", x.token(1, 2), n);
            CHECKS.due("its COLUMN", x.token(1, 4), 601 - n);
        }
        LayoutTokens y = Checks.readOf(Checks.times(600, "a"));
        CHECKS.due("a name of 600 octets", y.token(1, 2), 600);
        CHECKS.due("SIGNS", y.token(1, 5), 600);
        CHECKS.due("SIGN 599", y.sign(1, 599), 'a');
        CHECKS.due("SIGN 600", y.sign(1, 600), -1);
        CHECKS.due("the end", y.token(2, 1), 600);
    }

    /** A LINE ends with octet 10, or 13, or both (13 10). */
    private static void endsOfLines() {
        dueLine("a\n b", 2);
        dueLine("a\r b", 2);
        dueLine("a\r\n b", 2);
        dueLine("a\n\r b", 3);
        dueLine("a\n\n b", 3);
        dueLine("a\r\r b", 3);
        dueLine("a\r\r\n b", 3);
        dueLine("a\r\n\n b", 3);
        dueLine("a\r\n\r b", 3);
        dueLine("a\r\n\r\n b", 3);
        dueLine("a\n\r\n b", 3);
        dueLine("a b", 1);
        CHECKS.due("the most LINES", Checks.readOf(Checks.times(599, "\n") + "a").token(1, 3), 600);
        CHECKS.due("the last octet ends a LINE", Checks.readOf(Checks.times(600, "\r")).token(0, 3), 600);
        CHECKS.due("LINES of two octets", Checks.readOf(Checks.times(300, "\r\n")).token(0, 3), 300);
    }

    private static void dueLine(String text, int line) {
        LayoutTokens x = Checks.readOf(text);
        CHECKS.due("LINE of b in a text of " + text.length(), x.token(2, 3), line);
        CHECKS.due("its COLUMN", x.token(2, 4), line == 1 ? 3 : 2);
        CHECKS.due("LINE of the end", x.token(3, 3), line);
    }

    /** The same when 13 and 10 come by two calls. */
    private static void endsOfLinesInParts() {
        LayoutTokens x = new LayoutTokens();
        x.octets(2, 0x0D61L);
        CHECKS.due("octets", x.octets(2, 0x620AL), 4);
        CHECKS.due("COLUMN of the 13", x.column(1), 2);
        CHECKS.due("COLUMN of the 10", x.column(2), 3);
        CHECKS.due("COLUMN behind them", x.column(3), 1);
        CHECKS.due("read", x.read(false), 5);
        CHECKS.due("LINE", x.token(3, 3), 2);
    }

    private static void noEndsOfLines() {
        LayoutTokens x = Checks.readOf("a\u000bb\u000cc");
        CHECKS.due("LINE behind 11 and 12", x.token(3, 3), 1);
        CHECKS.due("COLUMN behind 11", x.token(2, 4), 3);
        CHECKS.due("COLUMN behind 12", x.token(3, 4), 5);
        CHECKS.dueTokens("a -- \u000b b \u000c c \u0085 d \u001c e", "{ 0:a }");
    }

    /** The COLUMN of an octet is 1 at the beginning of a LINE, and one more than that of the octet before. */
    private static void columnsAtTheBeginning() {
        dueColumns("ab\r\nc", 1, 2, 3, 4, 1);
        dueColumns("\n\n\na", 1, 1, 1, 1);
        dueColumns("\r\r\ra", 1, 1, 1, 1);
        dueColumns("\r\n\r\na", 1, 2, 1, 2, 1);
        dueColumns("\n\r\na", 1, 1, 2, 1);
        dueColumns("a\n\rb", 1, 2, 1, 1);
        dueColumns("\u0000\u00ffa", 1, 2, 3);
        CHECKS.due("the last COLUMN", Checks.of(Checks.times(600, "a")).column(599), 600);
    }

    private static void dueColumns(String text, int... due) {
        LayoutTokens x = Checks.of(text);
        for (int place = 0; place < due.length; place++) {
            CHECKS.due("column(" + place + ") of " + due.length, x.column(place), due[place]);
        }
        CHECKS.due("column of the size", x.column(due.length), -1);
    }

    /** Behind a tab (9) it is the next one of 1, 9, 17, .. . */
    private static void columnsBehindTabs() {
        for (int blanks = 0; blanks <= 24; blanks++) {
            LayoutTokens x = Checks.readOf(Checks.times(blanks, " ") + "\ta");
            CHECKS.due("COLUMN of the tab behind " + blanks, x.column(blanks), blanks + 1);
            int due = blanks < 8 ? 9 : blanks < 16 ? 17 : blanks < 24 ? 25 : 33;
            CHECKS.due("COLUMN behind it", x.token(1, 4), due);
        }
        dueColumns("\t\t\ta", 1, 9, 17, 25);
        dueColumns("a\t\n\ta\t", 1, 2, 9, 1, 9, 10);
        dueColumns("\t\r\na", 1, 9, 10, 1);
        CHECKS.due("behind 599 tabs", Checks.of(Checks.times(600, "\t")).column(599), 599 * 8 + 1);
    }

    /** BLANKS are 32, 9, 11, 12, and ends of LINES. */
    private static void blanks() {
        for (int octet = 0; octet < 256; octet++) {
            LayoutTokens x = Checks.of("" + (char) octet);
            boolean isEmpty = x.read(false) == 2 && x.told(2) == 2;
            CHECKS.due(octet + " is a BLANK", isEmpty, isBlank(octet));
        }
        for (int blank : BLANKS) {
            CHECKS.dueTokens("M." + (char) blank + "  a", "{ 1:M 3:. 0:a }");
        }
    }

    private static boolean isBlank(int octet) {
        for (int blank : BLANKS) {
            if (blank == octet) {
                return true;
            }
        }
        return false;
    }

    /** A LINE with > as its first octet is CODE: that > counts as 32. */
    private static void code() {
        CHECKS.dueLiterate(">a", "{ 0:a }");
        CHECKS.dueLiterate(">", "{ }");
        CHECKS.dueLiterate(">\n>\r>", "{ }");
        CHECKS.dueLiterate(">>a", "{ 3:> 0:a }");
        CHECKS.dueLiterate(">->", "{ 5:-> }");
        CHECKS.dueLiterate("> a\n> > b\n>c", "{ 0:a ; 3:> 0:b } 0:c");
        LayoutTokens x = Checks.of(">a");
        x.read(true);
        CHECKS.due("place behind the >", x.token(1, 1), 1);
        CHECKS.due("COLUMN behind the >", x.token(1, 4), 2);
        LayoutTokens y = Checks.of(Checks.times(599, "\n") + ">");
        CHECKS.due("CODE as the last octet", y.read(true), 2);
        CHECKS.due("the same, not LITERATE", y.read(false), 3);
    }

    private static void codeBehindEveryEnd() {
        CHECKS.dueLiterate("\n>a\r>b\r\n>c\n\r>d", "{ 0:a ; 0:b ; 0:c ; 0:d }");
        CHECKS.dueLiterateFault(" >a", 3);
        CHECKS.dueLiterateFault("\t>a", 3);
        CHECKS.dueLiterateFault("\u000b>a\u000c>b", 6);
    }

    /** Others are TEXT: all their octets count as 32. */
    private static void text() {
        StringBuilder all = new StringBuilder();
        for (int octet = 0; octet < 256; octet++) {
            all.append(octet == 10 || octet == 13 ? "" : "" + (char) octet);
        }
        CHECKS.dueLiterate(all + "\n\n> a\n\n" + all, "{ 0:a }");
        CHECKS.dueLiterate("'\n\"\n{-\n\n> a\n\n-}\n}", "{ 0:a }");
        CHECKS.dueLiterate("> a {-\n\n-} b\n\n> c -} d", "{ 0:a 0:d }");
        CHECKS.dueLiterate("> \"a\\\n\nb\"\n\n> \\c\"", "{ 12:97,99 }");
        CHECKS.dueLiterate("> f = do\n\ntext\n\n>  a\n\ntext\n\n>  b", "{ 0:f 5:= 2:do { 0:a ; 0:b } }");
    }

    /** A LINE of TEXT that has something other than 32, 9, 11, 12 may not stand beside a LINE of CODE: FAULT at its first octet. */
    private static void textBesideCode() {
        for (int octet = 0; octet < 256; octet++) {
            if (octet == 10 || octet == 13) {
                continue;
            }
            boolean isEmpty = octet == 32 || octet == 9 || octet == 11 || octet == 12;
            int ahead = Checks.of(" " + (char) octet + "\n> a").read(true);
            CHECKS.due("TEXT of " + octet + " ahead of CODE", ahead, isEmpty ? 3 : -2);
            int behind = Checks.of("> a\n " + (char) octet).read(true);
            CHECKS.due("TEXT of " + octet + " behind CODE", behind, isEmpty ? 3 : -2 - 4);
        }
        CHECKS.dueLiterateFault("> a\rt", 4);
        CHECKS.dueLiterateFault("> a\r\nt", 5);
        CHECKS.dueLiterate("> a\n\rt", "{ 0:a }");
        CHECKS.dueLiterateFault("t\r\n> a", 0);
        CHECKS.dueLiterate("t\n\r> a", "{ 0:a }");
        CHECKS.dueLiterateFault("\n    t \n>", 1);
        CHECKS.dueLiterateFault(">" + Checks.times(597, "a") + "\nt", 599);
    }

    /** (the first such LINE in THE TEXT). */
    private static void theFirstSuchLine() {
        CHECKS.dueLiterateFault("s\n> a\nt\n> b", 0);
        CHECKS.dueLiterateFault("s\n\n> a\nt\n> b\nu", 7);
        CHECKS.dueLiterateFault("r\ns\n> a", 2);
        CHECKS.dueLiterateFault("> a\ns\nt\n\n> b\nu", 4);
        CHECKS.dueLiterateFault("> a\n\n> b\n\ns\nt\n> c\nu", 12);
    }

    private static void emptyTextBesideCode() {
        CHECKS.dueLiterate("s\n\n> a\n\nt", "{ 0:a }");
        CHECKS.dueLiterate("s\n \t\u000b\u000c\n> a\n\u000c\u000b\t \nt", "{ 0:a }");
        CHECKS.dueLiterate("s\r\r> a\r\rt", "{ 0:a }");
        CHECKS.dueLiterate("s\r\n\r\n> a\r\n\r\nt", "{ 0:a }");
        CHECKS.dueLiterate("\n> a\n", "{ 0:a }");
        CHECKS.dueLiterate("> a\n ", "{ 0:a }");
    }

    /** No LINE of CODE at all: FAULT at the size. */
    private static void noCode() {
        CHECKS.dueLiterateFault("", 0);
        CHECKS.dueLiterateFault("\n", 1);
        CHECKS.dueLiterateFault("a", 1);
        CHECKS.dueLiterateFault("a > b\n >", 8);
        CHECKS.dueLiterateFault("\u0001 ' \"", 5);
        CHECKS.dueLiterateFault(Checks.times(600, " "), 600);
        CHECKS.dueLiterateFault(Checks.times(300, " >"), 600);
    }
}
