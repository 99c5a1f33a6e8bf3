/** Promise 3: at most 60 ITEMS and 500 TOKENS, and which of several FAULTS is told. */
public final class LimitsTest {
    private static final Checks CHECKS = new Checks();

    public static void main(String[] args) {
        items();
        itemsByBlocks();
        itemsByEmptyBlocks();
        tokens();
        tokensPutIn();
        tokensAtTheEnd();
        order();
        CHECKS.end();
    }

    private static void items() {
        CHECKS.dueRead(Checks.times(59, "("), 60);
        CHECKS.dueFault(Checks.times(60, "("), 59);
        CHECKS.dueRead(Checks.times(60, "{"), 60);
        CHECKS.dueFault(Checks.times(61, "{"), 60);
        CHECKS.dueFault(Checks.times(60, "{") + " [", 61);
        CHECKS.dueFault(Checks.times(60, "{") + "if", 60);
        CHECKS.dueFault(Checks.times(60, "{") + "case", 60);
        CHECKS.dueFault(Checks.times(60, "{") + "then", 60);
        CHECKS.dueRead(Checks.times(59, "{") + "if then else if", 63);
        CHECKS.dueRead(Checks.times(60, "{") + "}{", 62);
        CHECKS.dueRead(Checks.times(100, "()"), 202);
    }

    private static void itemsByBlocks() {
        CHECKS.dueRead(Checks.times(59, "{") + "do a", 59 + 4);
        CHECKS.dueFault(Checks.times(60, "{") + "do a", 63);
        CHECKS.dueRead(Checks.times(59, "do ") + "a", 180);
        CHECKS.dueFault(Checks.times(60, "do ") + "a", 180);
    }

    private static void itemsByEmptyBlocks() {
        String blanks = Checks.times(10, " ");
        String block = blanks + "a do\n" + blanks + blanks;
        CHECKS.dueRead(block + Checks.times(57, "(") + "\n do b", 65);
        CHECKS.duePrint(block + "(\n do b)", "{ a do { ( do { } b ) } }");
        CHECKS.dueRead(block + Checks.times(58, "(") + "\n b", 63);
        CHECKS.dueFault(block + Checks.times(58, "(") + "\n do b", 98);
        CHECKS.dueRead(Checks.times(59, "{") + "do", 62);
        CHECKS.dueFault(Checks.times(60, "{") + "do", 62);
        CHECKS.dueFault(Checks.times(60, "{") + "do \n", 64);
    }

    private static void tokens() {
        CHECKS.dueRead("{" + Checks.times(499, ";"), 500);
        CHECKS.dueFault("{" + Checks.times(500, ";"), 500);
        CHECKS.dueFault("{" + Checks.times(599, ";"), 500);
        CHECKS.dueFault("{ " + Checks.times(500, ";"), 501);
    }

    private static void tokensPutIn() {
        CHECKS.dueFault(Checks.times(249, "a\n") + "a", 499);
        CHECKS.dueRead(Checks.times(249, "a\n") + "   ", 499);
        CHECKS.dueRead(Checks.times(249, "a\n") + " b", 500);
        CHECKS.dueFault(Checks.times(249, "a\n") + " b\nc", 501);
        CHECKS.dueFault(Checks.times(249, "a\n") + " b c d", 503);
        CHECKS.dueFault("module{" + Checks.times(494, ";") + "(do a)", 506);
    }

    private static void tokensAtTheEnd() {
        CHECKS.dueRead(Checks.times(498, ";"), 500);
        CHECKS.dueFault(Checks.times(499, ";"), 499);
        CHECKS.dueFault(Checks.times(499, ";") + "  ", 501);
        CHECKS.dueFault(Checks.times(500, ";") + "  ", 499);
        CHECKS.dueFault("{" + Checks.times(497, ";") + "do ", 501);
        CHECKS.dueRead("{" + Checks.times(496, ";") + "do ", 500);
    }

    private static void order() {
        CHECKS.dueFault("} \u0001", 2);
        CHECKS.dueFault("} {- ", 2);
        CHECKS.dueFault(Checks.times(550, ";") + "'", 551);
        CHECKS.dueFault("} " + Checks.times(61, "("), 0);
        CHECKS.due("LITERATE first", Checks.of("> \u0001 }\ntext").read(true), -2 - 6);
        CHECKS.due("reading then", Checks.of("> } \u0001\n\ntext").read(true), -2 - 4);
        CHECKS.due("THE LAYOUT last", Checks.of("> }\n\ntext").read(true), -2 - 2);
    }
}
