/** Promise 3: LITERATE texts. */
public final class LiterateTest {
    private static final Checks CHECKS = new Checks();

    public static void main(String[] args) {
        codeAndText();
        columns();
        faults();
        acrossLines();
        CHECKS.end();
    }

    private static void codeAndText() {
        CHECKS.dueLiterate("> a", "{ 0:a }");
        CHECKS.dueLiterate(">a", "{ 0:a }");
        CHECKS.dueLiterate("Text (' \"\u00ff {-\n\n> a\n>  b\n\nmore", "{ 0:a 0:b }");
        CHECKS.dueLiterate("text\r\r> a\r\n> b\r\n \t\u000b\u000c\r\nmore", "{ 0:a ; 0:b }");
        CHECKS.dueLiterate(">", "{ }");
        CHECKS.dueLiterate("> a > b\n>> c", "{ 0:a 3:> 0:b } 3:> 0:c");
        CHECKS.dueTokens("> a", "{ 3:> 0:a }");
    }

    private static void columns() {
        LayoutTokens x = Checks.of("t\tt\n\n>\ta\n>       b");
        CHECKS.due("read", x.read(true), 5);
        CHECKS.due("tokens", Checks.shown(x), "{ 0:a ; 0:b }");
        CHECKS.due("place", x.token(1, 1), 7);
        CHECKS.due("LINE", x.token(1, 3), 3);
        CHECKS.due("COLUMN", x.token(1, 4), 9);
        CHECKS.due("column of a >", x.column(5), 1);
        CHECKS.due("column behind a tab of TEXT", x.column(2), 9);
    }

    private static void faults() {
        CHECKS.dueLiterateFault("", 0);
        CHECKS.dueLiterateFault("abc\n", 4);
        CHECKS.dueLiterateFault(" > a", 4);
        CHECKS.dueLiterateFault("text\n> a", 0);
        CHECKS.dueLiterateFault("> a\n  text", 4);
        CHECKS.dueLiterateFault("one\n\n> a\ntext\n> b\ntext", 9);
        CHECKS.dueLiterateFault("one\ntwo\n> a\nthree", 4);
        CHECKS.dueLiterateFault("> a\r\ntext", 5);
        CHECKS.dueLiterateFault("> a\rtext", 4);
        CHECKS.dueLiterateFault("> a\n\u0000", 4);
        CHECKS.dueLiterateFault("> \u0001\ntext", 4);
        CHECKS.dueLiterateFault("> \u0001\n\ntext", 2);
        CHECKS.dueLiterateFault("> a\n\n> }", 7);
    }

    private static void acrossLines() {
        CHECKS.dueLiterate("> a {-\n\n-}\n\n> -} b", "{ 0:a 0:b }");
        CHECKS.dueLiterate("> \"a\\\n>\\b\"", "{ 12:97,98 }");
        CHECKS.dueLiterate("> \"a\\\n\ntext\n\n>\\b\"", "{ 12:97,98 }");
        LayoutTokens x = Checks.of("> a -- b\n>{- c\n> -} d");
        CHECKS.due("read", x.read(true), 4);
        CHECKS.due("first COMMENT", x.comment(0, 1), 4);
        CHECKS.due("second COMMENT", x.comment(1, 0), 10);
        CHECKS.due("its octets", x.comment(1, 1), 9);
    }
}
