import java.math.BigInteger;
import java.util.Arrays;
import java.util.List;

/** The edges of '2 TOKENS' but for CHARACTERS and TEXTS, a method for each sentence that names one. */
public final class TokenEdgesTest {
    private static final Checks CHECKS = new Checks();
    private static final String SYMBOLS = "!#$%&*+./<=>?@\\^|-~:";
    private static final List<String> KEPT =
            Arrays.asList("..", ":", "::", "=", "\\", "|", "<-", "->", "@", "~", "=>");
    private static final String[] WORDS = {
        "case", "class", "data", "default", "deriving", "do", "else", "foreign", "if", "import", "in",
        "infix", "infixl", "infixr", "instance", "let", "module", "newtype", "of", "then", "type",
        "where", "_",
    };

    public static void main(String[] args) {
        everyOctet();
        lineComments();
        lineCommentsEnd();
        commentsWithin();
        commentsThirtyDeep();
        commentsWithoutEnd();
        names();
        words();
        wordsCutAndLonger();
        operators();
        operatorsOfThree();
        qualifiedNames();
        qualifiedWords();
        qualifiedOperators();
        qualifiedLongest();
        wholeNumbers();
        numbersWithoutFigures();
        figuresOfEachRadix();
        brokenNumbers();
        wrapping();
        whereNoTokenCanBegin();
        CHECKS.end();
    }

    /** What a text of one octet is: SYMBOLS, LETTERS, figures, SPECIAL ones, BLANKS, else a FAULT. */
    private static void everyOctet() {
        for (int octet = 0; octet < 256; octet++) {
            String text = "" + (char) octet;
            LayoutTokens x = Checks.of(text);
            int answer = x.read(false);
            String due = kindOf(text);
            String got = answer == 3 ? "" + x.token(1, 0) : answer == 2 && x.told(2) == 2 ? "blank"
                    : answer == 1 || answer == 2 ? "" + x.token(answer - 1, 0) : "fault " + (-2 - answer);
            CHECKS.due("kind of octet " + octet, got, due);
        }
    }

    private static String kindOf(String octet) {
        if (" \t\u000b\u000c\n\r".contains(octet)) {
            return "blank";
        }
        if (octet.equals("'") || octet.equals("\"")) {
            return "fault 1";
        }
        if (octet.equals("}")) {
            return "fault 0";
        }
        if (SYMBOLS.contains(octet)) {
            return KEPT.contains(octet) ? "5" : "3";
        }
        if ("()[],;`{".contains(octet)) {
            return "13";
        }
        if ("abcdefghijklmnopqrstuvwxyz".contains(octet)) {
            return "0";
        }
        if ("ABCDEFGHIJKLMNOPQRSTUVWXYZ".contains(octet)) {
            return "1";
        }
        return octet.equals("_") ? "2" : "0123456789".contains(octet) ? "9" : "fault 0";
    }

    /** -- and as many - more as are there, if no SYMBOL follows them. */
    private static void lineComments() {
        for (int octet = 0; octet < 256; octet++) {
            if (octet == '-') {
                continue;
            }
            boolean isSymbol = SYMBOLS.indexOf(octet) >= 0;
            for (int dashes = 2; dashes <= 4; dashes++) {
                LayoutTokens x = Checks.of(Checks.times(dashes, "-") + (char) octet);
                CHECKS.due("read of dashes and " + octet, x.read(false), isSymbol ? 3 : 2);
                CHECKS.due("COMMENTS of dashes and " + octet, x.told(4), isSymbol ? 0 : 1);
            }
        }
        CHECKS.dueTokens("-", "{ 3:- }");
        CHECKS.dueTokens("a--", "{ 0:a }");
        CHECKS.dueTokens("+--", "{ 3:+-- }");
        CHECKS.dueTokens("(--)", "{ 13:(");
        CHECKS.due("600 dashes", Checks.readOf(Checks.times(600, "-")).comment(0, 1), 600);
        CHECKS.due("599 dashes and a SYMBOL", Checks.readOf(Checks.times(599, "-") + "+").token(1, 5), 600);
    }

    /** Up to the end of the LINE. */
    private static void lineCommentsEnd() {
        for (String end : new String[] {"\n", "\r", "\r\n", "\n\r"}) {
            LayoutTokens x = Checks.readOf("--ab" + end + "c");
            CHECKS.due("the token behind the COMMENT", Checks.shown(x), "{ 0:c }");
            CHECKS.due("how many octets, without the end", x.comment(0, 1), 4);
        }
        CHECKS.due("without any end", Checks.readOf("--ab").comment(0, 1), 4);
        CHECKS.due("nothing behind --", Checks.readOf("--\n").comment(0, 1), 2);
        CHECKS.dueTokens("-- {- \" '\na", "{ 0:a }");
    }

    /** {- up to the -} that belongs to it, with others within. */
    private static void commentsWithin() {
        CHECKS.dueTokens("{--}a", "{ 0:a }");
        CHECKS.dueTokens("{---}a", "{ 0:a }");
        CHECKS.dueTokens("{-}-}a", "{ 0:a }");
        CHECKS.dueTokens("{-{--}-}a", "{ 0:a }");
        CHECKS.dueTokens("{-{-}-}-}a", "{ 0:a }");
        CHECKS.dueTokens("{-{--}b{--}-}a", "{ 0:a }");
        CHECKS.dueTokens("{-{ -}a", "{ 0:a }");
        CHECKS.dueTokens("{- - }-}a", "{ 0:a }");
        CHECKS.dueTokens("{--}{--}a{--}", "{ 0:a }");
        CHECKS.dueTokens("{- \" -}a", "{ 0:a }");
        CHECKS.dueTokens("{- --\n-- -}a", "{ 0:a }");
        CHECKS.dueTokens("{-#-}a", "{ 0:a }");
        CHECKS.dueTokens("{", "13:{");
        CHECKS.dueTokens(Checks.times(59, "a -- ----\n") + "        {", "{ 0:a " + Checks.times(58, "; 0:a ") + "13:{");
        LayoutTokens x = Checks.readOf("{-" + Checks.times(596, "\u0000") + "-}");
        CHECKS.due("a COMMENT of 600 octets", x.comment(0, 1), 600);
        CHECKS.due("its depth", x.told(5), 1);
    }

    /** 30 deep at most: FAULT at the 31st's first octet. */
    private static void commentsThirtyDeep() {
        String in = Checks.times(30, "{-");
        String out = Checks.times(30, "-}");
        CHECKS.due("29 deep", Checks.readOf(in.substring(2) + out.substring(2)).told(5), 29);
        CHECKS.due("30 deep", Checks.readOf(in + out).told(5), 30);
        CHECKS.dueFault(in + "{-" + out + "-}", 60);
        CHECKS.dueFault(in + " {-" + out + "-}", 61);
        CHECKS.dueRead(in + "-}{--}" + out.substring(2), 2);
        CHECKS.dueRead(in + "-}{-" + out, 2);
        CHECKS.dueFault(in + "-}{-{-" + out + "-}", 64);
        CHECKS.dueRead(in + out + in + out, 2);
        CHECKS.dueRead("-- {- {-\n" + in + out, 2);
        CHECKS.dueRead(in + "{ " + out, 2);
        CHECKS.dueFault(in + "{" + out, 60);
        CHECKS.dueFault("a{--}" + in + "{-", 65);
        CHECKS.dueFault(Checks.times(300, "{-"), 60);
    }

    /** No end: FAULT at the first octet of the outermost. */
    private static void commentsWithoutEnd() {
        CHECKS.dueFault("{-", 0);
        CHECKS.dueFault("{-}", 0);
        CHECKS.dueFault("{- -", 0);
        CHECKS.dueFault("ab {- {- -} ", 3);
        CHECKS.dueFault("{--} {- {--} {- -}", 5);
        CHECKS.dueFault(Checks.times(30, "{-") + Checks.times(29, "-}"), 0);
        CHECKS.dueFault(Checks.times(598, " ") + "{-", 598);
        CHECKS.dueFault("\u0001 {-", 0);
        CHECKS.dueFault("{- \u0001", 0);
    }

    /** NAMES: a LETTER, then LETTERS, figures, '. */
    private static void names() {
        for (int octet = 0; octet < 256; octet++) {
            String part = "" + (char) octet;
            boolean goesOn = part.matches("[A-Za-z0-9_']");
            if (octet == '"' || !goesOn && kindOf(part).startsWith("fault")) {
                CHECKS.dueFault("a" + part, octet == '"' ? 2 : 1);
                continue;
            }
            CHECKS.due("octets of a and " + octet, Checks.readOf("a" + part).token(1, 2), goesOn ? 2 : 1);
            CHECKS.due("octets of A and " + octet, Checks.readOf("A" + part).token(1, 2), goesOn ? 2 : 1);
            CHECKS.due("octets of _ and " + octet, Checks.readOf("_" + part).token(1, 2), goesOn ? 2 : 1);
        }
        CHECKS.dueTokens("a' a'' A' _' __ _1 _A A_ aA Aa", "{ 0:a' 0:a'' 1:A' 0:_' 0:__ 0:_1 0:_A 1:A_ 0:aA 1:Aa }");
        CHECKS.dueTokens("1a 'a' a'a'", "{ 9:1 0:a 11:97 0:a'a' }");
    }

    /** 2 a WORD. */
    private static void words() {
        for (String word : WORDS) {
            LayoutTokens x = Checks.readOf("a " + word);
            CHECKS.due("kind of " + word, x.token(2, 0), 2);
            CHECKS.due("SIGNS of " + word, Checks.signs(x, 2), word);
        }
    }

    private static void wordsCutAndLonger() {
        for (String word : WORDS) {
            for (String more : new String[] {"x", "X", "0", "'", "_", word}) {
                CHECKS.due("kind of " + word + more, Checks.readOf("a " + word + more).token(2, 0), 0);
            }
            CHECKS.due("kind of x" + word, Checks.readOf("a x" + word).token(2, 0), 0);
            String large = word.substring(0, 1).toUpperCase() + word.substring(1);
            CHECKS.due("kind of " + large, Checks.readOf("a " + large).token(2, 0), word.equals("_") ? 2 : 1);
            String cut = word.substring(0, word.length() - 1);
            boolean isWord = Arrays.asList(WORDS).contains(cut);
            if (!cut.isEmpty()) {
                CHECKS.due("kind of " + cut, Checks.readOf("a " + cut).token(2, 0), isWord ? 2 : 0);
            }
        }
    }

    /** OPERATORS: kinds 3, 4 with : as the first one, 5 one of eleven. */
    private static void operators() {
        for (char first : SYMBOLS.toCharArray()) {
            dueOperator("" + first);
            for (char second : SYMBOLS.toCharArray()) {
                dueOperator("" + first + second);
            }
        }
    }

    private static void dueOperator(String text) {
        LayoutTokens x = Checks.readOf("a " + text + " b");
        if (text.equals("--")) {
            CHECKS.due("read of --", x.told(1), 3);
            return;
        }
        int due = KEPT.contains(text) ? 5 : text.charAt(0) == ':' ? 4 : 3;
        CHECKS.due("kind of " + text, x.token(2, 0), due);
        CHECKS.due("SIGNS of " + text, Checks.signs(x, 2), text);
    }

    private static void operatorsOfThree() {
        for (String kept : KEPT) {
            for (char more : SYMBOLS.toCharArray()) {
                if (kept.length() == 2) {
                    dueOperator(kept + more);
                    dueOperator(more + kept);
                }
            }
        }
        CHECKS.due("600 SYMBOLS", Checks.readOf(Checks.times(600, ":")).token(1, 0), 4);
        CHECKS.due("600 SYMBOLS", Checks.readOf(Checks.times(600, ".")).token(1, 5), 600);
    }

    /** One or more large NAMES, each with . behind it at once, and behind that at once a NAME. */
    private static void qualifiedNames() {
        CHECKS.dueTokens("M.a M.A M.N.a M.N.A M._a M.a' M'.a M1.a_2", "{ 6:M.a 7:M.A 6:M.N.a 7:M.N.A 6:M._a 6:M.a' 6:M'.a 6:M1.a_2 }");
        CHECKS.dueTokens("M .a M. a M.\na", "{ 1:M 3:. 0:a 1:M 3:. 0:a 1:M 3:. ; 0:a }");
        CHECKS.dueTokens("M{--}.a M.{--}a", "{ 1:M 3:. 0:a 1:M 3:. 0:a }");
        CHECKS.dueTokens("m.a m.A _.a 1.a 'c'.a", "{ 0:m 3:. 0:a 0:m 3:. 1:A 2:_ 3:. 0:a 9:1 3:. 0:a 11:99 3:. 0:a }");
        CHECKS.dueTokens("M.", "{ 1:M 3:. }");
        CHECKS.dueTokens("M.N.", "{ 7:M.N 3:. }");
        CHECKS.dueTokens("M.1 M.'a' M.(", "{ 1:M 3:. 9:1 1:M 3:. 11:97 1:M 3:. 13:(");
        CHECKS.dueTokens("M.a.b M.a.B M.A.b.C.d", "{ 6:M.a 3:. 0:b 6:M.a 3:. 1:B 6:M.A.b 3:. 6:C.d }");
        LayoutTokens x = Checks.readOf(Checks.times(299, "A.") + "Bc");
        CHECKS.due("300 NAMES", x.told(1), 3);
        CHECKS.due("their kind", x.token(1, 0), 7);
        CHECKS.due("their SIGNS", x.token(1, 5), 600);
        CHECKS.due("a dot among them", x.sign(1, 597), '.');
        LayoutTokens y = Checks.readOf(Checks.times(300, "A."));
        CHECKS.due("300 NAMES, a dot at the end", y.token(1, 5), 599);
        CHECKS.due("the dot", y.token(2, 1), 599);
    }

    /** A small NAME that is no WORD; M.where is M, ., where. */
    private static void qualifiedWords() {
        for (String word : WORDS) {
            LayoutTokens x = Checks.readOf("M." + word);
            CHECKS.due("kind of M in M." + word, x.token(1, 0), 1);
            CHECKS.due("the dot is an OPERATOR", x.token(2, 0), 3);
            CHECKS.due("the dot alone", x.token(2, 5), 1);
            CHECKS.due("kind of " + word, x.token(3, 0), 2);
            LayoutTokens y = Checks.readOf("M.N." + word);
            CHECKS.due("kind of M.N in M.N." + word, y.token(1, 0), 7);
            CHECKS.due("its SIGNS", y.token(1, 5), 3);
            CHECKS.due("kind of " + word, y.token(3, 0), 2);
            CHECKS.due("kind of M." + word + "'", Checks.readOf("M." + word + "'").token(1, 0), 6);
        }
    }

    /** An OPERATOR that is not of kind 5, nor - alone two times or more (8). */
    private static void qualifiedOperators() {
        for (char first : SYMBOLS.toCharArray()) {
            dueQualified("" + first);
            for (char second : SYMBOLS.toCharArray()) {
                dueQualified("" + first + second);
            }
        }
        for (String text : new String[] {"---", "----", "-->", "--.", "...", "->>", "<--", ":::", "--:", "|--"}) {
            dueQualified(text);
        }
        CHECKS.dueTokens("M.-- a", "{ 1:M 3:.-- 0:a }");
        CHECKS.dueTokens("M.N.=b", "{ 7:M.N 3:.= 0:b }");
        CHECKS.dueTokens("M..", "{ 8:M.. }");
        CHECKS.dueTokens("M...", "{ 1:M 3:... }");
        CHECKS.dueTokens("M..a", "{ 8:M.. 0:a }");
        CHECKS.dueTokens("M.+.a", "{ 8:M.+. 0:a }");
    }

    private static void dueQualified(String text) {
        LayoutTokens x = Checks.readOf("M." + text + " a");
        boolean isPart = !KEPT.contains(text) && !text.matches("--+");
        CHECKS.due("tokens of M." + text, Checks.shown(x),
                isPart ? "{ 8:M." + text + " 0:a }" : "{ 1:M 3:." + text + " 0:a }");
    }

    /** The longest: what can't be a part is not read. */
    private static void qualifiedLongest() {
        CHECKS.dueTokens("M.N.O.in.p", "{ 7:M.N.O 3:. 2:in 3:. 0:p }");
        CHECKS.dueTokens("M.N..", "{ 8:M.N.. }");
        CHECKS.dueTokens("M.N.5", "{ 7:M.N 3:. 9:5 }");
        CHECKS.dueTokens("M.N.\"\"", "{ 7:M.N 3:. 12: }");
        CHECKS.dueFault("M.\u0001", 2);
    }

    /** Kind 9: figures; 0x or 0X, 0o or 0O, 0b or 0B and one or more of their figures. */
    private static void wholeNumbers() {
        CHECKS.dueTokens("0 9 00 09 0x0 0X0 0o0 0O0 0b0 0B0", "{ 9:0 9:9 9:00 9:09 9:0x0 9:0X0 9:0o0 9:0O0 9:0b0 9:0B0 }");
        CHECKS.dueTokens("00x1 10x1 1x1 1o1 1b1", "{ 9:00 0:x1 9:10 0:x1 9:1 0:x1 9:1 0:o1 9:1 0:b1 }");
        CHECKS.dueTokens("0x1x2 0b1b1 0o1o1", "{ 9:0x1 0:x2 9:0b1 0:b1 9:0o1 0:o1 }");
        CHECKS.dueTokens("1'a'", "{ 9:1 11:97 }");
        CHECKS.dueTokens("1_0", "{ 9:1 0:_0 }");
        CHECKS.due("600 figures", Checks.readOf(Checks.times(600, "7")).token(1, 5), 600);
        CHECKS.due("598 figures of sixteen", Checks.readOf("0x" + Checks.times(598, "f")).token(1, 5), 600);
    }

    /** (without such figures behind it at once: the 0 alone). */
    private static void numbersWithoutFigures() {
        CHECKS.dueTokens("0x", "{ 9:0 0:x }");
        CHECKS.dueTokens("0X", "{ 9:0 1:X }");
        CHECKS.dueTokens("0o", "{ 9:0 0:o }");
        CHECKS.dueTokens("0O", "{ 9:0 1:O }");
        CHECKS.dueTokens("0b", "{ 9:0 0:b }");
        CHECKS.dueTokens("0B", "{ 9:0 1:B }");
        CHECKS.dueTokens("0x 1", "{ 9:0 0:x 9:1 }");
        CHECKS.dueTokens("0x.5", "{ 9:0 0:x 3:. 9:5 }");
        CHECKS.dueTokens("0X.a", "{ 9:0 6:X.a }");
        CHECKS.dueTokens("0o8", "{ 9:0 0:o8 }");
        CHECKS.dueTokens("0b2", "{ 9:0 0:b2 }");
        CHECKS.dueTokens("0B2.a", "{ 9:0 6:B2.a }");
        CHECKS.dueTokens("0xg", "{ 9:0 0:xg }");
        CHECKS.dueTokens("0of", "{ 9:0 2:of { } }");
    }

    private static void figuresOfEachRadix() {
        for (int octet = 33; octet < 127; octet++) {
            String part = "" + (char) octet;
            if (part.equals("'") || part.equals("\"") || part.equals("}")) {
                continue;
            }
            CHECKS.due("0x and " + part, Checks.readOf("0x" + part).token(1, 2), part.matches("[0-9a-fA-F]") ? 3 : 1);
            CHECKS.due("0o and " + part, Checks.readOf("0o" + part).token(1, 2), part.matches("[0-7]") ? 3 : 1);
            CHECKS.due("0b and " + part, Checks.readOf("0b" + part).token(1, 2), part.matches("[01]") ? 3 : 1);
            CHECKS.due("1 and " + part, Checks.readOf("1" + part).token(1, 2), part.matches("[0-9]") ? 2 : 1);
        }
        CHECKS.dueTokens("0o78 0b12 0xfg", "{ 9:0o7 9:8 9:0b1 9:2 9:0xf 0:g }");
    }

    /** Kind 10: figures . figures, perhaps with e or E, perhaps + or -, and figures; or figures with such an e part. */
    private static void brokenNumbers() {
        CHECKS.dueTokens("0.0 1.5e0 1.5E0 1.5e+0 1.5e-0 1e0 1E0 1E+0 1E-0",
                "{ 10:0.0 10:1.5e0 10:1.5E0 10:1.5e+0 10:1.5e-0 10:1e0 10:1E0 10:1E+0 10:1E-0 }");
        CHECKS.dueTokens("1.", "{ 9:1 3:. }");
        CHECKS.dueTokens("1..", "{ 9:1 5:.. }");
        CHECKS.dueTokens("1.e1", "{ 9:1 3:. 0:e1 }");
        CHECKS.dueTokens(".1", "{ 3:. 9:1 }");
        CHECKS.dueTokens("1e", "{ 9:1 0:e }");
        CHECKS.dueTokens("1e+", "{ 9:1 0:e 3:+ }");
        CHECKS.dueTokens("1e-x", "{ 9:1 0:e 3:- 0:x }");
        CHECKS.dueTokens("1e++1", "{ 9:1 0:e 3:++ 9:1 }");
        CHECKS.dueTokens("1.5e", "{ 10:1.5 0:e }");
        CHECKS.dueTokens("1.5e+", "{ 10:1.5 0:e 3:+ }");
        CHECKS.dueTokens("1.5E.a", "{ 10:1.5 6:E.a }");
        CHECKS.dueTokens("1e5.5", "{ 10:1e5 3:. 9:5 }");
        CHECKS.dueTokens("1.2.3", "{ 10:1.2 3:. 9:3 }");
        CHECKS.dueTokens("0x1.5 0x1e+5 0b1e5 0o1.5", "{ 9:0x1 3:. 9:5 9:0x1e 3:+ 9:5 9:0b1 0:e5 9:0o1 3:. 9:5 }");
        CHECKS.dueTokens("1.0x1 1e0x1", "{ 10:1.0 0:x1 10:1e0 0:x1 }");
        for (int octet = 33; octet < 127; octet++) {
            String part = "" + (char) octet;
            if (part.equals("'") || part.equals("\"") || part.equals("}")) {
                continue;
            }
            int longer = part.matches("[0-9]") ? 1 : 0;
            CHECKS.due("octets of 1.0 and " + part, Checks.readOf("1.0" + part).token(1, 2), 3 + longer);
            CHECKS.due("octets of 1e0 and " + part, Checks.readOf("1e0" + part).token(1, 2), 3 + longer);
            CHECKS.due("octets of 1. and " + part, Checks.readOf("1." + part).token(1, 2), 1 + 2 * longer);
            CHECKS.due("octets of 1e and " + part, Checks.readOf("1e" + part).token(1, 2), 1 + 2 * longer);
            CHECKS.due("octets of 1E- and " + part, Checks.readOf("1E-" + part).token(1, 2), 1 + 3 * longer);
        }
        CHECKS.due("597 figures behind it", Checks.readOf("1." + Checks.times(598, "2")).token(1, 5), 600);
        CHECKS.due("the value of kind 10", Checks.readOf("12.5").number(1), 0L);
    }

    /** The value of a TOKEN of kind 9, wrapping. */
    private static void wrapping() {
        dueValue("", 10, "9223372036854775807");
        dueValue("", 10, "9223372036854775808");
        dueValue("", 10, "18446744073709551615");
        dueValue("", 10, "18446744073709551616");
        dueValue("", 10, "000000000000000000000000000012");
        dueValue("", 10, Checks.times(600, "9"));
        for (String letter : new String[] {"0x", "0X"}) {
            dueValue(letter, 16, "7fffffffffffffff");
            dueValue(letter, 16, "8000000000000000");
            dueValue(letter, 16, "FFFFFFFFFFFFFFFF");
            dueValue(letter, 16, "10000000000000000");
            dueValue(letter, 16, "123456789abcdefABCDEF0");
        }
        for (String letter : new String[] {"0o", "0O"}) {
            dueValue(letter, 8, "777777777777777777777");
            dueValue(letter, 8, "1777777777777777777777");
            dueValue(letter, 8, "2000000000000000000001");
            dueValue(letter, 8, "01234567");
        }
        for (String letter : new String[] {"0b", "0B"}) {
            dueValue(letter, 2, Checks.times(63, "1"));
            dueValue(letter, 2, Checks.times(64, "1"));
            dueValue(letter, 2, Checks.times(65, "10"));
        }
    }

    private static void dueValue(String letter, int radix, String figures) {
        long due = new BigInteger(figures, radix).longValue();
        CHECKS.due("number of " + letter + figures, Checks.readOf(letter + figures).number(1), due);
    }

    /** FAULT: the place of the first octet where no token can begin. */
    private static void whereNoTokenCanBegin() {
        CHECKS.dueFault("\u0000", 0);
        CHECKS.dueFault("abc\u0080", 3);
        CHECKS.dueFault("abc \u0080 \u0081", 4);
        CHECKS.dueFault("\n\n\u001f", 2);
        CHECKS.dueFault("\u007f", 0);
        CHECKS.dueFault("\u00a0", 0);
        CHECKS.dueFault("-\u0001", 1);
        CHECKS.dueFault("1.\u0001", 2);
        CHECKS.dueFault("\u0001'", 0);
        CHECKS.dueFault(Checks.times(599, "a") + "\u00ff", 599);
        LayoutTokens x = Checks.of("a");
        x.octets(8, -1L);
        CHECKS.due("octets of 255", x.read(false), -3);
    }
}
