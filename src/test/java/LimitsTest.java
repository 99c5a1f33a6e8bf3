/** Promise 3: at most 60 ITEMS and 500 TOKENS, and which of several FAULTS is told. */
public final class LimitsTest {
    private static final Checks CHECKS = new Checks();

    public static void main(String[] args) {
        items();
        itemsByBlocks();
        itemsByEmptyBlocks();
        everyItemAsTheLast();
        oneTokenTwoItems();
        itemsThatGoAway();
        roomForBoth();
        tokens();
        tokensPutIn();
        tokensByBegunBlocks();
        tokensByEmptyBlocks();
        tokensAsked();
        tokensAtTheEnd();
        order();
        orderWithin();
        CHECKS.end();
    }

    private static void items() {
        CHECKS.dueRead(Checks.times(59, "("), 60);
        CHECKS.dueFault(Checks.times(60, "("), 59);
        CHECKS.dueRead(Checks.times(60, "{"), 60);
        CHECKS.dueFault(Checks.times(61, "{"), 60);
        CHECKS.dueFault(Checks.times(60, "{") + " [", 61);
        CHECKS.dueFault(Checks.times(60, "{") + "if", 60);
        CHECKS.dueFault(Checks.times(60, "{") + "case", 60);
        CHECKS.dueFault(Checks.times(60, "{") + "then", 60);
        CHECKS.dueRead(Checks.times(59, "{") + "if then else if", 63);
        CHECKS.dueRead(Checks.times(60, "{") + "}{", 62);
        CHECKS.dueRead(Checks.times(100, "()"), 202);
    }

    private static void itemsByBlocks() {
        CHECKS.dueRead(Checks.times(59, "{") + "do a", 59 + 4);
        CHECKS.dueFault(Checks.times(60, "{") + "do a", 63);
        CHECKS.dueRead(Checks.times(59, "do ") + "a", 180);
        CHECKS.dueFault(Checks.times(60, "do ") + "a", 180);
    }

    private static void itemsByEmptyBlocks() {
        String blanks = Checks.times(10, " ");
        String block = blanks + "a do\n" + blanks + blanks;
        CHECKS.dueRead(block + Checks.times(57, "(") + "\n do b", 65);
        CHECKS.duePrint(block + "(\n do b)", "{ a do { ( do { } b ) } }");
        CHECKS.dueRead(block + Checks.times(58, "(") + "\n b", 63);
        CHECKS.dueFault(block + Checks.times(58, "(") + "\n do b", 98);
        CHECKS.dueRead(Checks.times(59, "{") + "do", 62);
        CHECKS.dueFault(Checks.times(60, "{") + "do", 62);
        CHECKS.dueFault(Checks.times(60, "{") + "do \n", 64);
    }

    /** FAULT at the token by which there would be 61. */
    private static void everyItemAsTheLast() {
        for (String putter : new String[] {"(", "[", "{", "if", "case", "then"}) {
            CHECKS.dueRead(Checks.times(59, "{") + putter, 60);
            CHECKS.dueFault(Checks.times(60, "{") + putter, 60);
            CHECKS.dueFault(Checks.times(60, "{") + "\n\n " + putter, 63);
            CHECKS.dueFault("{" + Checks.times(59, "[") + putter, 60);
        }
        for (String word : new String[] {"let", "where", "do", "of"}) {
            int at = 60 + word.length() + 1;
            CHECKS.dueRead(Checks.times(59, "{") + word + " a", 63);
            CHECKS.dueFault(Checks.times(60, "{") + word + " a", at);
            CHECKS.dueRead(Checks.times(59, "{") + word + "{", 61);
            CHECKS.dueFault(Checks.times(60, "{") + word + "\n{", at);
        }
        CHECKS.dueRead(Checks.times(60, "{") + "a", 61);
        CHECKS.dueRead(Checks.times(58, "do ") + "a", 2 + 3 * 58 + 1);
        CHECKS.dueFault(Checks.times(59, "do ") + "(", 59 * 3);
    }

    private static void oneTokenTwoItems() {
        CHECKS.dueRead(Checks.times(58, "{") + "do (", 61);
        CHECKS.dueFault(Checks.times(59, "{") + "do (", 62);
        CHECKS.dueFault(Checks.times(59, "{") + "do if", 62);
    }

    private static void itemsThatGoAway() {
        CHECKS.dueRead(Checks.times(59, "{") + Checks.times(20, "()[]"), 139);
        CHECKS.dueRead(Checks.times(60, "{") + "}{}", 63);
        CHECKS.dueRead(Checks.times(59, "{") + "if then else if", 63);
        CHECKS.dueRead(Checks.times(59, "{") + "case of a", 64);
        CHECKS.dueFault(Checks.times(59, "{") + "if then if", 67);
        CHECKS.dueFault(Checks.times(59, "{") + "if case", 62);
        CHECKS.dueRead(Checks.times(59, "{") + "do\n  a\n {", 64);
        CHECKS.dueRead(Checks.times(59, "{") + "let a in (", 59 + 6);
        CHECKS.dueFault(Checks.times(59, "{") + "do a (", 64);
    }

    /** { and } that are PUT IN want room for one, too (at the end: FAULT at the size). */
    private static void roomForBoth() {
        String blanks = Checks.times(9, " ");
        for (String word : new String[] {"let", "where", "do", "of"}) {
            int longer = word.length();
            CHECKS.dueRead(blanks + "a" + Checks.times(58, "(") + "\n " + word + " b", 64);
            CHECKS.dueFault(blanks + "a" + Checks.times(59, "(") + "\n " + word + " b", 72 + longer);
            CHECKS.dueFault(blanks + "a" + Checks.times(59, "(") + "\n " + word, 71 + longer);
            CHECKS.dueRead(Checks.times(59, "{") + word, 62);
            CHECKS.dueFault(Checks.times(60, "{") + word, 60 + longer);
            CHECKS.dueFault(Checks.times(60, "{") + word + " -- c\n", 66 + longer);
        }
    }

    private static void tokens() {
        CHECKS.dueRead("{" + Checks.times(499, ";"), 500);
        CHECKS.dueFault("{" + Checks.times(500, ";"), 500);
        CHECKS.dueFault("{" + Checks.times(599, ";"), 500);
        CHECKS.dueFault("{ " + Checks.times(500, ";"), 501);
    }

    private static void tokensPutIn() {
        CHECKS.dueFault(Checks.times(249, "a\n") + "a", 499);
        CHECKS.dueRead(Checks.times(249, "a\n") + "   ", 499);
        CHECKS.dueRead(Checks.times(249, "a\n") + " b", 500);
        CHECKS.dueFault(Checks.times(249, "a\n") + " b\nc", 501);
        CHECKS.dueFault(Checks.times(249, "a\n") + " b c d", 503);
        CHECKS.dueFault("module{" + Checks.times(494, ";") + "(do a)", 506);
    }

    /** The { is the 501st, or what it stands ahead of, or the } at the end. */
    private static void tokensByBegunBlocks() {
        CHECKS.dueRead("{" + Checks.times(495, ";") + "do a", 500);
        CHECKS.dueFault("{" + Checks.times(496, ";") + "do a", 501);
        CHECKS.dueFault("{" + Checks.times(496, ";") + "do a   ", 504);
        CHECKS.dueFault("{" + Checks.times(497, ";") + "do a   ", 501);
        CHECKS.dueFault("{" + Checks.times(498, ";") + "do a   ", 502);
        CHECKS.dueFault("{" + Checks.times(499, ";") + "do a   ", 500);
    }

    /** The 501st is in turn what { } } stand ahead of, the second }, the first }, the {, and the word. */
    private static void tokensByEmptyBlocks() {
        CHECKS.dueRead(" " + Checks.times(494, ";") + "do\nb", 500);
        CHECKS.dueFault(" " + Checks.times(495, ";") + "do\nb", 499);
        CHECKS.dueFault(" " + Checks.times(496, ";") + "do\nb", 500);
        CHECKS.dueFault(" " + Checks.times(497, ";") + "do\nb", 501);
        CHECKS.dueFault(" " + Checks.times(498, ";") + "do\nb", 502);
        CHECKS.dueFault(" " + Checks.times(499, ";") + "do\nb", 500);
    }

    private static void tokensAsked() {
        CHECKS.dueRead("{" + Checks.times(493, ";") + "(do a)", 500);
        CHECKS.dueFault("{" + Checks.times(494, ";") + "(do a)", 500);
        CHECKS.dueFault("{" + Checks.times(495, ";") + "(do a)", 501);
        CHECKS.dueRead("{" + Checks.times(494, ";") + "let in", 499);
        CHECKS.dueRead("{" + Checks.times(495, ";") + "let in", 500);
        CHECKS.dueFault("{" + Checks.times(496, ";") + "let in", 501);
        CHECKS.dueFault("{" + Checks.times(497, ";") + "let in", 502);
    }

    private static void tokensAtTheEnd() {
        CHECKS.dueRead(Checks.times(498, ";"), 500);
        CHECKS.dueFault(Checks.times(499, ";"), 499);
        CHECKS.dueFault(Checks.times(499, ";") + "  ", 501);
        CHECKS.dueFault(Checks.times(500, ";") + "  ", 499);
        CHECKS.dueFault("{" + Checks.times(497, ";") + "do ", 501);
        CHECKS.dueRead("{" + Checks.times(496, ";") + "do ", 500);
        CHECKS.dueFault("{" + Checks.times(498, ";") + "do ", 502);
        CHECKS.dueFault("{" + Checks.times(499, ";") + "do ", 500);
        CHECKS.dueRead("do " + Checks.times(495, ";"), 500);
        CHECKS.dueFault("do " + Checks.times(496, ";") + "\n", 500);
        CHECKS.dueFault("do " + Checks.times(497, ";") + "\n", 501);
        LayoutTokens x = Checks.readOf(Checks.times(498, ";"));
        CHECKS.due("the last TOKEN", x.token(499, 0), 16);
        CHECKS.due("none behind it", x.token(500, 0), -1);
        CHECKS.due("told(1)", x.told(1), 500);
    }

    private static void order() {
        CHECKS.dueFault("} \u0001", 2);
        CHECKS.dueFault("} {- ", 2);
        CHECKS.dueFault(Checks.times(550, ";") + "'", 551);
        CHECKS.dueFault("} " + Checks.times(61, "("), 0);
        CHECKS.due("LITERATE first", Checks.of("> \u0001 }\ntext").read(true), -2 - 6);
        CHECKS.due("reading then", Checks.of("> } \u0001\n\ntext").read(true), -2 - 4);
        CHECKS.due("THE LAYOUT last", Checks.of("> }\n\ntext").read(true), -2 - 2);
    }

    /** Of those of one sort the first one in THE TEXT is told. */
    private static void orderWithin() {
        CHECKS.dueFault("{}} " + Checks.times(70, "("), 2);
        CHECKS.dueFault(Checks.times(70, "(") + " }", 59);
        CHECKS.dueFault("{} } " + Checks.times(550, ";"), 3);
        CHECKS.dueFault("{" + Checks.times(510, ";") + " } }", 500);
        CHECKS.dueFault("{" + Checks.times(450, ";") + Checks.times(70, "("), 451 + 49);
        CHECKS.dueFault("{" + Checks.times(430, ";") + Checks.times(60, "(") + Checks.times(60, ";"), 431 + 59);
        CHECKS.dueFault("\u0001 {-", 0);
        CHECKS.dueFault("{- \u0001", 0);
        CHECKS.dueFault("'ab' \u0001 \"", 2);
        CHECKS.dueLiterateFault("a\n> \u0001", 0);
        CHECKS.dueLiterateFault("} \u0001", 3);
        CHECKS.dueLiterateFault("> } '", 5);
        CHECKS.dueLiterateFault("> }\n\n> \u0001\nt", 9);
    }
}
