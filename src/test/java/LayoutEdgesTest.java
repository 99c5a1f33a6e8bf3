/** The edges of '3 THE LAYOUT', a method for each sentence that names one. */
public final class LayoutEdgesTest {
    private static final Checks CHECKS = new Checks();
    private static final String[] OPENERS = {"let", "where", "do", "of"};
    private static final String[] PUTTERS = {"(", "[", "{", "if", "case", "then"};
    private static final String[] OTHER_WORDS = {
        "case", "class", "data", "default", "deriving", "else", "foreign", "if", "import", "in", "infix",
        "infixl", "infixr", "instance", "module", "newtype", "then", "type", "_",
    };

    public static void main(String[] args) {
        theVeryFirstOne();
        nextBehindWords();
        nextBehindWordsIsBrace();
        columnAbove();
        columnOfBrace();
        columnThroughOthers();
        twoIsLeftOut();
        firstOnItsLine();
        blocksAreOver();
        sameColumn();
        overForIn();
        sameColumnForIn();
        needs();
        needsNotMet();
        everyNeedAndItem();
        needsGoAway();
        commaTakesNothingAway();
        braceWithoutItem();
        twoAheadOfThree();
        inAsks();
        inBehindEmptyLet();
        inBehindLetBrace();
        itemsOnTop();
        theEnd();
        putIn();
        CHECKS.end();
    }

    /** (or is the very first one, and is not module). */
    private static void theVeryFirstOne() {
        CHECKS.dueTokens("a", "{ 0:a }");
        CHECKS.dueTokens("\n\n      a", "{ 0:a }");
        CHECKS.dueTokens("module", "2:module");
        CHECKS.dueTokens("\n {--} module a\nb", "2:module 0:a 0:b");
        CHECKS.dueTokens("modules", "{ 0:modules }");
        CHECKS.dueTokens("Module", "{ 1:Module }");
        CHECKS.dueTokens("a module", "{ 0:a 2:module }");
        CHECKS.dueTokens("{", "13:{");
        CHECKS.dueTokens("{ a\nb", "13:{ 0:a 0:b");
        CHECKS.dueTokens(";", "{ 13:; }");
        CHECKS.dueTokens("(", "{ 13:(");
        CHECKS.dueTokens("in", "{ 2:in }");
        CHECKS.dueTokens("\"\"", "{ 12: }");
        CHECKS.dueFault("}", 0);
    }

    /** It comes next behind let, where, do, of. */
    private static void nextBehindWords() {
        for (String word : OPENERS) {
            CHECKS.dueTokens("a " + word + " b", "{ 0:a 2:" + word + " { 0:b } }");
            CHECKS.dueTokens("a " + word + " -- c\n b", "{ 0:a 2:" + word + " { 0:b } }");
            CHECKS.dueTokens("a " + word + "' b", "{ 0:a 0:" + word + "' 0:b }");
            CHECKS.dueTokens("a M." + word + " b", "{ 0:a 1:M 3:. 2:" + word + " { 0:b } }");
            CHECKS.dueTokens("module " + word + "\na", "2:module 2:" + word + " { 0:a }");
        }
        for (String word : OTHER_WORDS) {
            CHECKS.due("kind behind " + word, Checks.readOf("a " + word + " b").token(3, 0), 0);
        }
        CHECKS.dueTokens("do do a", "{ 2:do { 2:do { 0:a } } }");
        CHECKS.dueTokens("\"do\" a 'o' b", "{ 12:100,111 0:a 11:111 0:b }");
        CHECKS.dueTokens("do module", "{ 2:do { 2:module } }");
    }

    /** And is not { . */
    private static void nextBehindWordsIsBrace() {
        for (String word : OPENERS) {
            CHECKS.dueTokens("a " + word + "{b", "{ 0:a 2:" + word + " 13:{ 0:b");
            CHECKS.dueTokens("a " + word + "\n {b", "{ 0:a 2:" + word + " 13:{ 0:b");
            CHECKS.dueTokens("a " + word + "\n{b", "{ 0:a 2:" + word + " ; 13:{ 0:b");
            CHECKS.dueTokens("   a " + word + "\n{b", "{ 0:a 2:" + word + " } 13:{ 0:b");
            CHECKS.dueTokens("a " + word + "{--}b", "{ 0:a 2:" + word + " { 0:b } }");
        }
    }

    /** If its COLUMN is above that of the uppermost of BLOCKS (without any: 0), else { and } are PUT IN. */
    private static void columnAbove() {
        CHECKS.dueTokens("  a do\n   b", "{ 0:a 2:do { 0:b } }");
        CHECKS.dueTokens("  a do\n  b", "{ 0:a 2:do { } ; 0:b }");
        CHECKS.dueTokens("  a do\n b", "{ 0:a 2:do { } } 0:b");
        CHECKS.dueTokens("  a do\nb do\nc", "{ 0:a 2:do { } } 0:b 2:do { 0:c }");
        CHECKS.dueTokens("a do\n   b do\n  c", "{ 0:a 2:do { 0:b 2:do { } } 0:c }");
        CHECKS.dueTokens("a do\n   b do\n   c", "{ 0:a 2:do { 0:b 2:do { } ; 0:c } }");
        CHECKS.dueTokens("a do\n   b do\n    c", "{ 0:a 2:do { 0:b 2:do { 0:c } } }");
        CHECKS.dueTokens("        a do\n\tb", "{ 0:a 2:do { } ; 0:b }");
        CHECKS.dueTokens("       a do\n\tb", "{ 0:a 2:do { 0:b } }");
        CHECKS.dueTokens("module do\na", "2:module 2:do { 0:a }");
    }

    /** (that of a BRACE: 0). */
    private static void columnOfBrace() {
        CHECKS.dueTokens("{do\na", "13:{ 2:do { 0:a }");
        CHECKS.dueTokens("     a{do\nb", "{ 0:a 13:{ 2:do { 0:b }");
        CHECKS.dueTokens("     a{(do\nb", "{ 0:a 13:{ 13:( 2:do { 0:b }");
        CHECKS.dueTokens("{do\n  a do\n b}", "13:{ 2:do { 0:a 2:do { } } 0:b 13:}");
        CHECKS.dueTokens("{do\n  a do\n  b}", "13:{ 2:do { 0:a 2:do { } ; 0:b }? 13:}");
    }

    private static void columnThroughOthers() {
        CHECKS.dueTokens("  (do\n  b)", "{ 13:( 2:do { } 0:b 13:) }");
        CHECKS.dueTokens("  (do\n   b)", "{ 13:( 2:do { 0:b }? 13:) }");
        CHECKS.dueTokens("  [do\nb]", "{ 13:[ 2:do { } 0:b 13:] }");
        CHECKS.dueTokens("  if do\nb", "{ 2:if 2:do { } 0:b");
        CHECKS.dueTokens("  then do\nb", "{ 2:then 2:do { } 0:b");
        CHECKS.dueTokens("  case do\nb", "{ 2:case 2:do { } 0:b");
        CHECKS.dueTokens("  ([if do\nb", "{ 13:( 13:[ 2:if 2:do { } 0:b");
        CHECKS.dueTokens("     a(\ndo b", "{ 0:a 13:( 2:do { } 0:b");
    }

    /** (and 2 is left out); where { and } are PUT IN it is not. */
    private static void twoIsLeftOut() {
        CHECKS.dueTokens("do\n a", "{ 2:do { 0:a } }");
        CHECKS.dueTokens("do\n do\n  a\n  b", "{ 2:do { 2:do { 0:a ; 0:b } } }");
        CHECKS.dueTokens("do\na", "{ 2:do { } ; 0:a }");
        CHECKS.dueTokens("do\n  do\n  do\na", "{ 2:do { 2:do { } ; 2:do { } } ; 0:a }");
        CHECKS.dueTokens("of\nof", "{ 2:of { } ; 2:of { } }");
    }

    /** It is the first one that begins on its LINE. */
    private static void firstOnItsLine() {
        CHECKS.dueTokens("a\nb c\nd", "{ 0:a ; 0:b 0:c ; 0:d }");
        CHECKS.dueTokens("    a\n{--}b", "{ 0:a ; 0:b }");
        CHECKS.dueTokens("   a {-\n-} b", "{ 0:a ; 0:b }");
        CHECKS.dueTokens("     a {-\n-} b", "{ 0:a } 0:b");
        CHECKS.dueTokens("a -- c\n\n\n-- c\nb", "{ 0:a ; 0:b }");
        CHECKS.dueTokens("a \"\\\n\\\"\nb", "{ 0:a 12: ; 0:b }");
        CHECKS.dueTokens("  a \"\\\n\\\"b", "{ 0:a 12: ; 0:b }");
        CHECKS.dueTokens("  a \"\\\n\\\"b\n  c", "{ 0:a 12: ; 0:b ; 0:c }");
        CHECKS.dueTokens("a\r\nb\rc\n\rd", "{ 0:a ; 0:b ; 0:c ; 0:d }");
        CHECKS.dueTokens("a\u000bb\u000cc", "{ 0:a 0:b 0:c }");
    }

    /** As long as the uppermost ITEM is a BLOCK with a COLUMN above its, that BLOCK is over. */
    private static void blocksAreOver() {
        CHECKS.dueTokens("do\n  do\n    do\n      a\nb", "{ 2:do { 2:do { 2:do { 0:a } } } ; 0:b }");
        CHECKS.dueTokens("do\n  do\n    do\n      a\n   b", "{ 2:do { 2:do { 2:do { 0:a } } 0:b } }");
        CHECKS.dueTokens("do\n  do\n    do\n      a\n    b", "{ 2:do { 2:do { 2:do { 0:a } ; 0:b } } }");
        CHECKS.dueTokens("  do\n   a\nb", "{ 2:do { 0:a } } 0:b");
        for (String putter : PUTTERS) {
            LayoutTokens x = Checks.readOf("  do b " + putter + "\na");
            CHECKS.due("PUT IN ahead of a behind " + putter, x.told(2), 2);
        }
        CHECKS.dueTokens("  (do a\nb", "{ 13:( 2:do { 0:a } 0:b");
    }

    /** Then, if the uppermost ITEM is a BLOCK with the same COLUMN, ; is PUT IN. */
    private static void sameColumn() {
        CHECKS.dueTokens("  a\n   b", "{ 0:a 0:b }");
        CHECKS.dueTokens("  a\n  b", "{ 0:a ; 0:b }");
        CHECKS.dueTokens("  a\n b", "{ 0:a } 0:b");
        CHECKS.dueTokens("a\n(b\n)c", "{ 0:a ; 13:( 0:b 13:) 0:c }");
        CHECKS.dueTokens("a\n;b", "{ 0:a ; 13:; 0:b }");
        CHECKS.dueTokens("a(\nb\n)\nc", "{ 0:a 13:( 0:b 13:) ; 0:c }");
        CHECKS.dueTokens("a\n\n\nb", "{ 0:a ; 0:b }");
    }

    /** (for in: not any more when a LET's was over so). */
    private static void overForIn() {
        CHECKS.dueTokens("do\n  let\n    a\nin b", "{ 2:do { 2:let { 0:a } 2:in 0:b } }");
        CHECKS.dueTokens("let a = let b\nin c", "{ 2:let { 0:a 5:= 2:let { 0:b } 2:in 0:c } }");
        CHECKS.dueTokens("let a = let b\nc", "{ 2:let { 0:a 5:= 2:let { 0:b } } ; 0:c }");
        CHECKS.dueTokens("let a = do\n         b\nin c", "{ 2:let { 0:a 5:= 2:do { 0:b } } 2:in 0:c }");
        CHECKS.dueTokens("do\n  a where\n    b\nin c", "{ 2:do { 0:a 2:where { 0:b } } ; 2:in 0:c }");
        CHECKS.dueTokens("   let a = do\n    b\nin c", "{ 2:let { 0:a 5:= 2:do { } } 0:b } 2:in 0:c");
    }

    /** (not for in when a LET's was over so). */
    private static void sameColumnForIn() {
        CHECKS.dueTokens("let a\nin b", "{ 2:let { 0:a } 2:in 0:b }");
        CHECKS.dueTokens("let a\nc", "{ 2:let { 0:a } ; 0:c }");
        CHECKS.dueTokens("a\nin b", "{ 0:a ; 2:in 0:b }");
        CHECKS.dueTokens("let a\n    in b", "{ 2:let { 0:a ; }? 2:in 0:b }");
        CHECKS.dueTokens("do a\nin b", "{ 2:do { 0:a } ; 2:in 0:b }");
        CHECKS.dueTokens("let a = do\n     b\n    in c", "{ 2:let { 0:a 5:= 2:do { 0:b } ; }? 2:in 0:c }");
    }

    /** It needs an ITEM: .. all BLOCKS above it are over, a } PUT IN for each, ASKED. */
    private static void needs() {
        CHECKS.dueTokens("(do a)", "{ 13:( 2:do { 0:a }? 13:) }");
        CHECKS.dueTokens("[do a]", "{ 13:[ 2:do { 0:a }? 13:] }");
        CHECKS.dueTokens("if do a then b", "{ 2:if 2:do { 0:a }? 2:then 0:b");
        CHECKS.dueTokens("then do a else b", "{ 2:then 2:do { 0:a }? 2:else 0:b }");
        CHECKS.dueTokens("case do a of b", "{ 2:case 2:do { 0:a }? 2:of { 0:b } }");
        CHECKS.dueTokens("{do a}", "13:{ 2:do { 0:a }? 13:}");
        CHECKS.dueTokens("(do a,b", "{ 13:( 2:do { 0:a }? 13:, 0:b");
        CHECKS.dueTokens("[do a,b", "{ 13:[ 2:do { 0:a }? 13:, 0:b");
        CHECKS.dueTokens("(do do do a)", "{ 13:( 2:do { 2:do { 2:do { 0:a }? }? }? 13:) }");
        CHECKS.dueTokens("(a)", "{ 13:( 0:a 13:) }");
        CHECKS.dueTokens("(do)", "{ 13:( 2:do { }? 13:) }");
        CHECKS.dueTokens("if do then", "{ 2:if 2:do { }? 2:then");
    }

    /** If there is no such ITEM nothing is done. */
    private static void needsNotMet() {
        for (String token : new String[] {")", "]", "else", ","}) {
            String shown = (token.length() == 1 ? "13:" : "2:") + token;
            CHECKS.dueTokens("do a " + token, "{ 2:do { 0:a " + shown + " } }");
            CHECKS.dueTokens("if do a " + token, "{ 2:if 2:do { 0:a " + shown + " }");
            CHECKS.dueTokens("{do a " + token, "13:{ 2:do { 0:a " + shown + " }");
        }
        CHECKS.dueTokens("do a then", "{ 2:do { 0:a 2:then");
        CHECKS.dueTokens("do a of", "{ 2:do { 0:a 2:of { } } }");
        CHECKS.dueTokens("(do a]", "{ 13:( 2:do { 0:a 13:] }");
        CHECKS.dueTokens("[do a)", "{ 13:[ 2:do { 0:a 13:) }");
        CHECKS.dueTokens("(do [do a)", "{ 13:( 2:do { 13:[ 2:do { 0:a 13:) }");
        CHECKS.dueTokens("(if do a)", "{ 13:( 2:if 2:do { 0:a 13:) }");
        CHECKS.dueTokens("if do a else b", "{ 2:if 2:do { 0:a 2:else 0:b }");
        CHECKS.dueTokens("then do a then b", "{ 2:then 2:do { 0:a 2:then 0:b");
        CHECKS.dueTokens("if do a of b", "{ 2:if 2:do { 0:a 2:of { 0:b } }");
        CHECKS.dueTokens("case do a then b", "{ 2:case 2:do { 0:a 2:then 0:b");
        CHECKS.dueTokens("case do a,b", "{ 2:case 2:do { 0:a 13:, 0:b }");
        CHECKS.dueTokens("then do a,b", "{ 2:then 2:do { 0:a 13:, 0:b }");
    }

    /** ) ROUND, ] SQUARE, then IF, else THEN, of CASE, } BRACE, the comma ROUND or SQUARE, and no other. */
    private static void everyNeedAndItem() {
        String[] tokens = {")", "]", "then", "else", "of", "}", ","};
        String[] items = {"(", "[", "if", "then", "case", "{"};
        for (int i = 0; i < tokens.length; i++) {
            for (int j = 0; j < items.length; j++) {
                boolean isMet = i == j || i == 6 && j < 2;
                String text = "a " + items[j] + " do b " + tokens[i];
                LayoutTokens x = Checks.of(text);
                int answer = x.read(false);
                boolean isFault = i == 5 && !isMet;
                CHECKS.due("FAULT of " + text, answer, isFault ? -2 - (text.length() - 1) : answer);
                CHECKS.due("TOKENS of " + text, answer >= 0, !isFault);
                CHECKS.due("ASKED in " + text, x.told(3), isMet ? 1 : 0);
            }
        }
        CHECKS.dueTokens("case do a else b", "{ 2:case 2:do { 0:a 2:else 0:b }");
        CHECKS.dueTokens("then do a of b", "{ 2:then 2:do { 0:a 2:of { 0:b } }");
    }

    /** And it goes away. */
    private static void needsGoAway() {
        CHECKS.dueTokens("(do a))", "{ 13:( 2:do { 0:a }? 13:) 13:) }");
        CHECKS.dueTokens("do (a) b)", "{ 2:do { 13:( 0:a 13:) 0:b 13:) } }");
        CHECKS.dueTokens("[a] do b]", "{ 13:[ 0:a 13:] 2:do { 0:b 13:] } }");
        CHECKS.dueTokens("if a then b else do c else", "{ 2:if 0:a 2:then 0:b 2:else 2:do { 0:c 2:else } }");
        CHECKS.dueTokens("case a of b of c", "{ 2:case 0:a 2:of { 0:b 2:of { 0:c } } }");
        CHECKS.dueFault("{a}}", 3);
        CHECKS.dueTokens("((do a) (do b))", "{ 13:( 13:( 2:do { 0:a }? 13:) 13:( 2:do { 0:b }? 13:) 13:) }");
    }

    /** (not by a comma). */
    private static void commaTakesNothingAway() {
        CHECKS.dueTokens("(do a, do b, do c)",
                "{ 13:( 2:do { 0:a }? 13:, 2:do { 0:b }? 13:, 2:do { 0:c }? 13:) }");
        CHECKS.dueTokens("[a, do b]", "{ 13:[ 0:a 13:, 2:do { 0:b }? 13:] }");
        CHECKS.dueTokens("{do a, b}", "13:{ 2:do { 0:a 13:, 0:b }? 13:}");
    }

    /** But for }: FAULT at it. */
    private static void braceWithoutItem() {
        CHECKS.dueFault(" }", 1);
        CHECKS.dueFault("a }", 2);
        CHECKS.dueFault("do a }", 5);
        CHECKS.dueFault("module }", 7);
        CHECKS.dueFault("{ a } }", 6);
        for (String putter : new String[] {"(", "[", "if", "case", "then"}) {
            CHECKS.dueFault("{ " + putter + " }", 3 + putter.length());
            CHECKS.dueFault("{ " + putter + " do }", 6 + putter.length());
        }
        CHECKS.dueFault("} }", 0);
    }

    /** What 2 does it does ahead of 3, and it is not ASKED. */
    private static void twoAheadOfThree() {
        CHECKS.dueTokens("   (do a\n)", "{ 13:( 2:do { 0:a } 13:) }");
        CHECKS.dueTokens("(do a\n    )", "{ 13:( 2:do { 0:a ; }? 13:) }");
        CHECKS.dueTokens("(do a\n     )", "{ 13:( 2:do { 0:a }? 13:) }");
        CHECKS.dueTokens("(do\n  do\n   a\n  )", "{ 13:( 2:do { 2:do { 0:a } ; }? 13:) }");
        CHECKS.dueTokens("if do a\nthen b", "{ 2:if 2:do { 0:a } 2:then 0:b");
        CHECKS.dueTokens("{do a\n}", "13:{ 2:do { 0:a } 13:}");
    }

    /** In: if above all ITEMS that are no BLOCKS there is a LET's BLOCK, those above the uppermost such one and itself are over. */
    private static void inAsks() {
        CHECKS.dueTokens("let a in b", "{ 2:let { 0:a }? 2:in 0:b }");
        CHECKS.dueTokens("let in b", "{ 2:let { }? 2:in 0:b }");
        CHECKS.dueTokens("let a do do b in c", "{ 2:let { 0:a 2:do { 2:do { 0:b }? }? }? 2:in 0:c }");
        CHECKS.dueTokens("let a let b in c", "{ 2:let { 0:a 2:let { 0:b }? 2:in 0:c } }");
        CHECKS.dueTokens("let a let b in c in d in e", "{ 2:let { 0:a 2:let { 0:b }? 2:in 0:c }? 2:in 0:d 2:in 0:e }");
        CHECKS.dueTokens("let (do a in b", "{ 2:let { 13:( 2:do { 0:a 2:in 0:b }");
        CHECKS.dueTokens("let if let a in b", "{ 2:let { 2:if 2:let { 0:a }? 2:in 0:b");
        CHECKS.dueTokens("let {do a in b", "{ 2:let 13:{ 2:do { 0:a 2:in 0:b }");
        for (String word : new String[] {"where", "do", "of"}) {
            CHECKS.dueTokens("a " + word + " b in c", "{ 0:a 2:" + word + " { 0:b 2:in 0:c } }");
        }
        CHECKS.dueTokens("let a\n      in b", "{ 2:let { 0:a }? 2:in 0:b }");
    }

    /** Or { } PUT IN by 1 behind let: nothing. */
    private static void inBehindEmptyLet() {
        CHECKS.dueTokens("   a let\nin b", "{ 0:a 2:let { } } 2:in 0:b");
        CHECKS.dueTokens("let a let\n    in b", "{ 2:let { 0:a 2:let { } ; 2:in 0:b } }");
        CHECKS.dueTokens("let a let\n    in b in c", "{ 2:let { 0:a 2:let { } ; 2:in 0:b }? 2:in 0:c }");
        CHECKS.dueTokens("let a let\n  in b", "{ 2:let { 0:a 2:let { } } 2:in 0:b }");
        CHECKS.dueTokens("let a do\n    in b", "{ 2:let { 0:a 2:do { } ; }? 2:in 0:b }");
        CHECKS.dueTokens("         (\nlet in b", "{ 13:( 2:let { } 2:in 0:b");
    }

    /** Or the token before was the } of a LET's BRACE: nothing. */
    private static void inBehindLetBrace() {
        CHECKS.dueTokens("let {a} in b", "{ 2:let 13:{ 0:a 13:} 2:in 0:b }");
        CHECKS.dueTokens("let a let {b} in c", "{ 2:let { 0:a 2:let 13:{ 0:b 13:} 2:in 0:c } }");
        CHECKS.dueTokens("let a let {b} in c in d", "{ 2:let { 0:a 2:let 13:{ 0:b 13:} 2:in 0:c }? 2:in 0:d }");
        CHECKS.dueTokens("let a let {} in c", "{ 2:let { 0:a 2:let 13:{ 13:} 2:in 0:c } }");
        CHECKS.dueTokens("let a let {b {c}} in d", "{ 2:let { 0:a 2:let 13:{ 0:b 13:{ 0:c 13:} 13:} 2:in 0:d } }");
        CHECKS.dueTokens("let a let {b} {c} in d", "{ 2:let { 0:a 2:let 13:{ 0:b 13:} 13:{ 0:c 13:} }? 2:in 0:d }");
        CHECKS.dueTokens("let a let {b} c in d", "{ 2:let { 0:a 2:let 13:{ 0:b 13:} 0:c }? 2:in 0:d }");
        CHECKS.dueTokens("let a do {b} in c", "{ 2:let { 0:a 2:do 13:{ 0:b 13:} }? 2:in 0:c }");
        CHECKS.dueTokens("let a {b} in c", "{ 2:let { 0:a 13:{ 0:b 13:} }? 2:in 0:c }");
        CHECKS.dueTokens("let a let {b}\n      in c", "{ 2:let { 0:a 2:let 13:{ 0:b 13:} 2:in 0:c } }");
        CHECKS.dueTokens("let a let {b}\nin c", "{ 2:let { 0:a 2:let 13:{ 0:b 13:} } 2:in 0:c }");
        CHECKS.dueTokens("let {a let b in c} in d", "{ 2:let 13:{ 0:a 2:let { 0:b }? 2:in 0:c 13:} 2:in 0:d }");
    }

    /** ( [ { if case then put ROUND, SQUARE, BRACE, IF, CASE, THEN on top. */
    private static void itemsOnTop() {
        for (String putter : PUTTERS) {
            String shown = (putter.length() == 1 ? "13:" : "2:") + putter;
            CHECKS.dueTokens("a do b " + putter, "{ 0:a 2:do { 0:b " + shown);
        }
        for (String other : new String[] {";", "`", "else", "in", ")", ",", "class", "\"\"", "1"}) {
            CHECKS.due("PUT IN of do b " + other, Checks.readOf("a do b " + other).told(2), 4);
        }
    }

    /** At the end: behind let, where, do, of, and without any token, { and } are PUT IN; then BLOCKS are over. */
    private static void theEnd() {
        CHECKS.dueTokens("", "{ }");
        CHECKS.dueTokens("\n\t {--} -- a", "{ }");
        for (String word : OPENERS) {
            CHECKS.dueTokens("a " + word, "{ 0:a 2:" + word + " { } }");
            CHECKS.dueTokens("a " + word + "\n-- c\n", "{ 0:a 2:" + word + " { } }");
            CHECKS.dueTokens("module " + word, "2:module 2:" + word + " { }");
            CHECKS.dueTokens("a (" + word, "{ 0:a 13:( 2:" + word + " { }");
        }
        for (String word : OTHER_WORDS) {
            LayoutTokens x = Checks.readOf("(" + word);
            CHECKS.due("PUT IN of ( and " + word, x.told(2), 1);
        }
        CHECKS.dueTokens("do do a", "{ 2:do { 2:do { 0:a } } }");
        CHECKS.dueTokens("do (do a", "{ 2:do { 13:( 2:do { 0:a }");
        CHECKS.dueTokens("do {do a", "{ 2:do 13:{ 2:do { 0:a }");
        CHECKS.due("none of them is ASKED", Checks.readOf("do do a").told(3), 0);
    }

    /** With the place, LINE and COLUMN of the token ahead of which they stand (at the end: the size, the LINE of the last octet, 1 without, and 0). */
    private static void putIn() {
        LayoutTokens x = Checks.readOf("a do\n\n   b (do\n    c)\n\n d\n");
        CHECKS.due("tokens", Checks.shown(x), "{ 0:a 2:do { 0:b 13:( 2:do { 0:c }? 13:) } 0:d }");
        duePutIn(x, 0, 14, 0, 1, 1);
        duePutIn(x, 3, 14, 9, 3, 4);
        duePutIn(x, 7, 14, 19, 4, 5);
        duePutIn(x, 9, 16, 20, 4, 6);
        duePutIn(x, 11, 16, 24, 6, 2);
        duePutIn(x, 13, 16, 26, 6, 0);
        LayoutTokens y = Checks.readOf("a where\r\n\r\nb\r\n\r\n");
        CHECKS.due("tokens", Checks.shown(y), "{ 0:a 2:where { } ; 0:b }");
        duePutIn(y, 3, 14, 11, 3, 1);
        duePutIn(y, 4, 16, 11, 3, 1);
        duePutIn(y, 5, 15, 11, 3, 1);
        duePutIn(y, 7, 16, 16, 4, 0);
        LayoutTokens z = Checks.readOf("");
        duePutIn(z, 0, 14, 0, 1, 0);
        duePutIn(z, 1, 16, 0, 1, 0);
        LayoutTokens w = Checks.readOf("do\n");
        duePutIn(w, 2, 14, 3, 1, 0);
        duePutIn(w, 4, 16, 3, 1, 0);
        LayoutTokens v = Checks.readOf("a\n ");
        duePutIn(v, 2, 16, 3, 2, 0);
        LayoutTokens full = Checks.readOf(Checks.times(600, "\n"));
        duePutIn(full, 1, 16, 600, 600, 0);
    }

    private static void duePutIn(LayoutTokens x, int k, int kind, int place, int line, int column) {
        int[] due = {kind, place, 0, line, column, 0};
        for (int what = 0; what < due.length; what++) {
            CHECKS.due("token(" + k + ", " + what + "), PUT IN", x.token(k, what), due[what]);
        }
        CHECKS.due("its SIGN 0", x.sign(k, 0), -1);
        CHECKS.due("its number", x.number(k), 0L);
    }
}
