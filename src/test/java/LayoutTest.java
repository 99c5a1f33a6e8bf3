/** Promises 3 and 7: THE LAYOUT. */
public final class LayoutTest {
    private static final Checks CHECKS = new Checks();

    public static void main(String[] args) {
        beginnings();
        blocks();
        emptyBlocks();
        brackets();
        words();
        lets();
        braces();
        firstOnLine();
        atTheEnd();
        putInPlaces();
        asked();
        CHECKS.end();
    }

    private static void beginnings() {
        CHECKS.dueTokens("", "{ }");
        CHECKS.dueTokens("  \n -- a", "{ }");
        CHECKS.duePrint("a", "{ a }");
        CHECKS.duePrint("  a\n  b\n c", "{ a ; b } c");
        CHECKS.duePrint("module", "module");
        CHECKS.duePrint("module A where\na\nb", "module A where { a ; b }");
        CHECKS.duePrint("module A where", "module A where { }");
        CHECKS.duePrint("{ a\nb }", "{ a b }");
        CHECKS.duePrint("a\nmodule", "{ a ; module }");
    }

    private static void blocks() {
        CHECKS.duePrint("f = do\n  a\n  b\n    c\ng", "{ f = do { a ; b c } ; g }");
        CHECKS.duePrint("f = a where\n  b = do c\n         d\n  e\ng",
                "{ f = a where { b = do { c ; d } ; e } ; g }");
        CHECKS.duePrint("f = do\n  do\n    a\n\n  -- x\n  b", "{ f = do { do { a } ; b } }");
        CHECKS.duePrint("f = do a\n   b", "{ f = do { a } b }");
        CHECKS.duePrint("f = case x of\n  A -> 1\n  B -> 2", "{ f = case x of { A -> 1 ; B -> 2 } }");
    }

    private static void emptyBlocks() {
        CHECKS.duePrint("a where\nb", "{ a where { } ; b }");
        CHECKS.duePrint("f = do\n  a where\n  b", "{ f = do { a where { } ; b } }");
        CHECKS.duePrint("f = do\n  do\n a", "{ f = do { do { } } a }");
        CHECKS.duePrint("do    (\n do b)", "{ do { ( do { } b ) } }");
        CHECKS.duePrint("of\nof\nof", "{ of { } ; of { } ; of { } }");
    }

    private static void brackets() {
        CHECKS.dueTokens("a = (do b)", "{ 0:a 5:= 13:( 2:do { 0:b }? 13:) }");
        CHECKS.dueTokens("(do)", "{ 13:( 2:do { }? 13:) }");
        CHECKS.dueTokens("[do a, do b]", "{ 13:[ 2:do { 0:a }? 13:, 2:do { 0:b }? 13:] }");
        CHECKS.dueTokens("(do do a, b)", "{ 13:( 2:do { 2:do { 0:a }? }? 13:, 0:b 13:) }");
        CHECKS.dueTokens("(do [a)", "{ 13:( 2:do { 13:[ 0:a 13:)");
        CHECKS.dueTokens("do a)", "{ 2:do { 0:a 13:) } }");
        CHECKS.dueTokens("do a, b", "{ 2:do { 0:a 13:, 0:b } }");
        CHECKS.dueTokens("x{do a, b}", "{ 0:x 13:{ 2:do { 0:a 13:, 0:b }? 13:} }");
        CHECKS.duePrint("(\na\n)", "{ ( a ) }");
        CHECKS.duePrint(" (\na\n )\n b", "{ ( a ) ; b }");
    }

    private static void words() {
        CHECKS.dueTokens("if do a then do b else c",
                "{ 2:if 2:do { 0:a }? 2:then 2:do { 0:b }? 2:else 0:c }");
        CHECKS.dueTokens("case do a of b", "{ 2:case 2:do { 0:a }? 2:of { 0:b } }");
        CHECKS.dueTokens("do a then b", "{ 2:do { 0:a 2:then 0:b");
        CHECKS.dueTokens("do a else b of c", "{ 2:do { 0:a 2:else 0:b 2:of { 0:c } } }");
        CHECKS.dueTokens("then do a else b", "{ 2:then 2:do { 0:a }? 2:else 0:b }");
        CHECKS.dueTokens("if do if a then b else c then d",
                "{ 2:if 2:do { 2:if 0:a 2:then 0:b 2:else 0:c }? 2:then 0:d");
        CHECKS.dueTokens("if (do a then b", "{ 2:if 13:( 2:do { 0:a 2:then 0:b");
        CHECKS.dueTokens("f = do\n  if a\n  then b\n  else c", "{ 0:f 5:= 2:do { 2:if 0:a 2:then 0:b 2:else 0:c } }");
    }

    private static void lets() {
        CHECKS.dueTokens("let a in b", "{ 2:let { 0:a }? 2:in 0:b }");
        CHECKS.dueTokens("let a\n    b\nin c", "{ 2:let { 0:a ; 0:b } 2:in 0:c }");
        CHECKS.dueTokens("f = let a\n        b\n    in c", "{ 0:f 5:= 2:let { 0:a ; 0:b } 2:in 0:c }");
        CHECKS.dueTokens("let in a", "{ 2:let { }? 2:in 0:a }");
        CHECKS.dueTokens("let\nin a", "{ 2:let { } ; 2:in 0:a }");
        CHECKS.dueTokens("let a = do b in c", "{ 2:let { 0:a 5:= 2:do { 0:b }? }? 2:in 0:c }");
        CHECKS.dueTokens("let a = let b in c in d", "{ 2:let { 0:a 5:= 2:let { 0:b }? 2:in 0:c }? 2:in 0:d }");
        CHECKS.dueTokens("let a = let b\n   in c\nin d", "{ 2:let { 0:a 5:= 2:let { 0:b } 2:in 0:c } 2:in 0:d }");
        CHECKS.dueTokens("let a = (b in c", "{ 2:let { 0:a 5:= 13:( 0:b 2:in 0:c");
        CHECKS.dueTokens("module let a in b", "2:module 2:let { 0:a }? 2:in 0:b");
        CHECKS.dueTokens("let a = let\n    in b", "{ 2:let { 0:a 5:= 2:let { } ; 2:in 0:b } }");
        CHECKS.dueTokens("do a in b", "{ 2:do { 0:a 2:in 0:b } }");
        CHECKS.dueTokens("do\n  let a = do\n        b\n  in c",
                "{ 2:do { 2:let { 0:a 5:= 2:do { 0:b } } 2:in 0:c } }");
        CHECKS.dueTokens("do\n   a\n  in b", "{ 2:do { 0:a } 2:in 0:b }");
        CHECKS.dueTokens("let a = do\n     b\n    in c", "{ 2:let { 0:a 5:= 2:do { 0:b } ; }? 2:in 0:c }");
    }

    private static void braces() {
        CHECKS.dueTokens("let {a} in b", "{ 2:let 13:{ 0:a 13:} 2:in 0:b }");
        CHECKS.dueTokens("let a = let {b} in c in d",
                "{ 2:let { 0:a 5:= 2:let 13:{ 0:b 13:} 2:in 0:c }? 2:in 0:d }");
        CHECKS.dueTokens("let a = x {b} in c", "{ 2:let { 0:a 5:= 0:x 13:{ 0:b 13:} }? 2:in 0:c }");
        CHECKS.dueTokens("let a = let {b}\n    in c", "{ 2:let { 0:a 5:= 2:let 13:{ 0:b 13:} ; 2:in 0:c } }");
        CHECKS.dueTokens("let {a in b", "{ 2:let 13:{ 0:a 2:in 0:b");
        CHECKS.dueTokens("do {a\n;b}", "{ 2:do 13:{ 0:a 13:; 0:b 13:} }");
        CHECKS.dueTokens("a do\n{ b }", "{ 0:a 2:do ; 13:{ 0:b 13:} }");
        CHECKS.dueTokens("do { do\na }", "{ 2:do 13:{ 2:do { 0:a }? 13:} }");
        CHECKS.dueTokens("{ do }", "13:{ 2:do { }? 13:}");
        CHECKS.dueFault("}", 0);
        CHECKS.dueFault("a }", 2);
        CHECKS.dueFault("{ ( }", 4);
        CHECKS.dueFault("{ } }", 4);
        CHECKS.dueFault("{ if a }", 7);
        CHECKS.dueFault("do a }", 5);
    }

    private static void firstOnLine() {
        CHECKS.dueTokens("a \"\\\n\\\" b", "{ 0:a 12: 0:b }");
        CHECKS.dueTokens("  a \"\\\n\\\"b", "{ 0:a 12: ; 0:b }");
        CHECKS.dueTokens("    a \"\\\n\\\"b", "{ 0:a 12: } 0:b");
        CHECKS.dueTokens("a\n{- -}b\n{--} c", "{ 0:a 0:b 0:c }");
        CHECKS.dueTokens("a do (\n ) b", "{ 0:a 2:do { 13:( 13:) 0:b } }");
        CHECKS.dueTokens("a do (\n   ) b", "{ 0:a 2:do { 13:( 13:) 0:b } }");
        CHECKS.dueTokens("a do (\n )\n b", "{ 0:a 2:do { 13:( 13:) } 0:b }");
        CHECKS.dueTokens("        a\n\tb", "{ 0:a ; 0:b }");
    }

    private static void atTheEnd() {
        CHECKS.duePrint("a = do", "{ a = do { } }");
        CHECKS.duePrint("let", "{ let { } }");
        CHECKS.duePrint("a where", "{ a where { } }");
        CHECKS.duePrint("case a of", "{ case a of { } }");
        CHECKS.duePrint("do do a", "{ do { do { a } } }");
        CHECKS.duePrint("do (do a", "{ do { ( do { a }");
        CHECKS.duePrint("(", "{ (");
        CHECKS.duePrint("if a", "{ if a");
        CHECKS.duePrint("{ a", "{ a");
    }

    private static void putInPlaces() {
        LayoutTokens x = Checks.of("a\n b = do\n  c\n\nd\n");
        CHECKS.due("tokens", x.read(false), 11);
        CHECKS.due("shown", Checks.shown(x), "{ 0:a 0:b 5:= 2:do { 0:c } ; 0:d }");
        int[][] due = {
            {0, 14, 0, 1, 1}, {5, 14, 12, 3, 3}, {7, 16, 15, 5, 1}, {8, 15, 15, 5, 1},
            {10, 16, 17, 5, 0},
        };
        for (int[] row : due) {
            CHECKS.due("kind of " + row[0], x.token(row[0], 0), row[1]);
            CHECKS.due("place of " + row[0], x.token(row[0], 1), row[2]);
            CHECKS.due("octets of " + row[0], x.token(row[0], 2), 0);
            CHECKS.due("LINE of " + row[0], x.token(row[0], 3), row[3]);
            CHECKS.due("COLUMN of " + row[0], x.token(row[0], 4), row[4]);
            CHECKS.due("SIGNS of " + row[0], x.token(row[0], 5), 0);
        }
        CHECKS.due("told(2)", x.told(2), 5);
        LayoutTokens y = new LayoutTokens();
        y.read(false);
        CHECKS.due("LINE without octets", y.token(0, 3), 1);
        CHECKS.due("COLUMN without octets", y.token(1, 4), 0);
    }

    private static void asked() {
        LayoutTokens x = Checks.of("(do do a)");
        x.read(false);
        CHECKS.due("shown", Checks.shown(x), "{ 13:( 2:do { 2:do { 0:a }? }? 13:) }");
        boolean[] due = {false, false, false, false, false, false, false, true, true, false, false};
        for (int k = 0; k < due.length; k++) {
            CHECKS.due("asked(" + k + ")", x.asked(k), due[k]);
        }
        CHECKS.due("asked(-1)", x.asked(-1), false);
        CHECKS.due("asked(11)", x.asked(11), false);
        CHECKS.due("asked(greatest)", x.asked(Integer.MAX_VALUE), false);
        CHECKS.due("told(3)", x.told(3), 2);
    }
}
