/** Promises 3 and 5: CHARACTERS and TEXTS with their ESCAPES and GAPS, and their FAULTS. */
public final class QuotesTest {
    private static final Checks CHECKS = new Checks();

    public static void main(String[] args) {
        characters();
        texts();
        escapes();
        names();
        gaps();
        faultsInCharacters();
        faultsInTexts();
        faultsInEscapes();
        CHECKS.end();
    }

    private static void characters() {
        CHECKS.dueTokens("'a' '\"' ' ' '~' '\\'' '\\\\' '\\\"'", "{ 11:97 11:34 11:32 11:126 11:39 11:92 11:34 }");
        CHECKS.dueTokens("a'b' 'c''d'", "{ 0:a'b' 11:99 11:100 }");
    }

    private static void texts() {
        CHECKS.dueTokens("\"\" \"a'b\" \"\\\"\"", "{ 12: 12:97,39,98 12:34 }");
        CHECKS.dueTokens("\"-- {- \"", "{ 12:45,45,32,123,45,32 }");
        LayoutTokens x = Checks.of("\"a\\&b\\1234\\&5\"");
        x.read(false);
        CHECKS.due("octets of a TEXT", x.token(1, 2), 14);
        CHECKS.due("SIGNS of a TEXT", Checks.signs(x, 1), "97,98,1234,53");
    }

    private static void escapes() {
        CHECKS.dueTokens("\"\\a\\b\\f\\n\\r\\t\\v\\\\\\\"\\'\"", "{ 12:7,8,12,10,13,9,11,92,34,39 }");
        CHECKS.dueTokens("\"\\^A\\^Z\\^[\\^\\\\^]\\^^\\^_\\^@\"", "{ 12:1,26,27,28,29,30,31,0 }");
        CHECKS.dueTokens("\"\\65\\o101\\x41\\x4Af\\1114111\\x10FFFF\\o4177777\\000065\"",
                "{ 12:65,65,65,1199,1114111,1114111,1114111,65 }");
        CHECKS.dueTokens("\"\\xag\\o18\\9a\"", "{ 12:10,103,1,56,9,97 }");
        CHECKS.dueTokens("'\\1114111' '\\^A' '\\SOH' '\\SO' '\\n'", "{ 11:1114111 11:1 11:1 11:14 11:10 }");
    }

    private static void names() {
        CHECKS.dueTokens("'\\DEL'", "{ 11:127 }");
        CHECKS.dueTokens("\"\\SOH\\SOX\\SO\\&H\\SO\\H\"", "fault 19");
        CHECKS.dueTokens("\"\\SOH\\SOX\\SO\\&H\\SO\\HT\"", "{ 12:1,14,88,14,72,14,9 }");
        CHECKS.dueTokens("\"\\DELL\\EMM\\USP\"", "{ 12:127,76,25,77,31,80 }");
    }

    private static void gaps() {
        CHECKS.dueTokens("\"a\\ \\b\"", "{ 12:97,98 }");
        CHECKS.dueTokens("\"a\\\n  \t\u000b\u000c\r\\b\\ \\\"", "{ 12:97,98 }");
        CHECKS.dueTokens("\"\\SO\\ \\H\\1\\ \\2\"", "{ 12:14,72,1,50 }");
        CHECKS.dueFault("\"a\\ b\"", 4);
        CHECKS.dueFault("\"a\\  ", 5);
        CHECKS.dueFault("\"a\\ \"", 4);
        CHECKS.dueFault("\"a\\ -- \\\"", 4);
        CHECKS.dueFault("'\\ \\a'", 2);
    }

    private static void faultsInCharacters() {
        CHECKS.dueFault("''", 1);
        CHECKS.dueFault("'", 1);
        CHECKS.dueFault("'a", 2);
        CHECKS.dueFault("'ab'", 2);
        CHECKS.dueFault("'\n'", 1);
        CHECKS.dueFault("'\t'", 1);
        CHECKS.dueFault("'\u007f'", 1);
        CHECKS.dueFault("'\\n", 3);
        CHECKS.dueFault("'\\nn'", 3);
        CHECKS.dueFault("'\\&'", 2);
        CHECKS.dueFault("'\\SOHH'", 5);
        CHECKS.dueFault("a 'b' 'cd", 8);
    }

    private static void faultsInTexts() {
        CHECKS.dueFault("\"", 1);
        CHECKS.dueFault("\"abc", 4);
        CHECKS.dueFault("\"ab\nc\"", 3);
        CHECKS.dueFault("\"ab\tc\"", 3);
        CHECKS.dueFault("\"ab\u0080c\"", 3);
        CHECKS.dueFault("\"\\\"", 3);
    }

    private static void faultsInEscapes() {
        CHECKS.dueFault("\"a\\", 3);
        CHECKS.dueFault("'\\", 2);
        CHECKS.dueFault("\"a\\q\"", 3);
        CHECKS.dueFault("\"a\\^a\"", 3);
        CHECKS.dueFault("\"a\\^", 3);
        CHECKS.dueFault("\"a\\^`\"", 3);
        CHECKS.dueFault("\"a\\^?\"", 3);
        CHECKS.dueFault("\"a\\o8\"", 3);
        CHECKS.dueFault("\"a\\o", 3);
        CHECKS.dueFault("\"a\\xg\"", 3);
        CHECKS.dueFault("\"a\\x", 3);
        CHECKS.dueFault("\"a\\X41\"", 3);
        CHECKS.dueFault("\"a\\O1\"", 3);
        CHECKS.dueFault("\"a\\NU\"", 3);
        CHECKS.dueFault("\"a\\DC5\"", 3);
        CHECKS.dueFault("\"a\\S", 3);
        CHECKS.dueFault("\"a\\\u0001\"", 3);
        CHECKS.dueFault("\"\\1114112\"", 8);
        CHECKS.dueFault("\"\\x110000\"", 8);
        CHECKS.dueFault("\"\\o4200000\"", 9);
        CHECKS.dueFault("\"\\99999999999999999999\"", 21);
        CHECKS.dueFault("'\\1114112", 8);
    }
}
