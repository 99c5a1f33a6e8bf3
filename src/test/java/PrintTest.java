/** Promises 10, 11 and 12: print, letter, back. */
public final class PrintTest {
    private static final Checks CHECKS = new Checks();

    public static void main(String[] args) {
        tokens();
        quotes();
        letters();
        refused();
        back();
        backIsCut();
        CHECKS.end();
    }

    private static void tokens() {
        CHECKS.duePrint("", "{ }");
        CHECKS.duePrint("a\nb", "{ a ; b }");
        CHECKS.duePrint("M.where{}0x1F,1.5e3 -- c", "{ M . where { } 0x1F , 1.5e3 }");
        CHECKS.duePrint("f= \\x->M.N.+x`y`'z'", "{ f = \\ x -> M.N.+ x ` y ` 'z' }");
    }

    private static void quotes() {
        CHECKS.duePrint("'a' '\\'' '\"' '\\\\' '\\n' '\\DEL' '\\1114111' ' '",
                "{ 'a' '\\39' '\"' '\\92' '\\10' '\\127' '\\1114111' ' ' }");
        CHECKS.duePrint("\"a'\\\"\\\\\\n\\0001\\&2\\ \\3\\NUL\\x10FFFF\\1000\"",
                "{ \"a'\\34\\&\\92\\&\\10\\&\\1\\&23\\0\\&\\1114111\\&\\1000\\&\" }");
        CHECKS.duePrint("\"\"", "{ \"\" }");
        CHECKS.duePrint("\"~ \\127\\128\\31\"", "{ \"~ \\127\\&\\128\\&\\31\\&\" }");
    }

    private static void letters() {
        LayoutTokens x = Checks.of("ab");
        CHECKS.due("print of nothing", x.print(), -1);
        x.read(false);
        CHECKS.due("letter before a print", x.letter(0), -1);
        CHECKS.due("print", x.print(), 6);
        CHECKS.due("letter(0)", x.letter(0), '{');
        CHECKS.due("letter(2)", x.letter(2), 'a');
        CHECKS.due("letter(5)", x.letter(5), '}');
        CHECKS.due("letter(6)", x.letter(6), -1);
        CHECKS.due("letter(-1)", x.letter(-1), -1);
        CHECKS.due("letter(greatest)", x.letter(Integer.MAX_VALUE), -1);
    }

    private static void refused() {
        LayoutTokens x = Checks.of("abc");
        x.read(false);
        x.print();
        x.clear();
        Checks.feed(x, "'");
        CHECKS.due("read", x.read(false), -3);
        CHECKS.due("print", x.print(), -1);
        CHECKS.due("the latest that was not NONE", Checks.letters(x, 7), "{ abc }");
        x.clear();
        x.read(false);
        CHECKS.due("print", x.print(), 3);
        CHECKS.due("a shorter one", Checks.letters(x, 3), "{ }");
        CHECKS.due("letter(3)", x.letter(3), -1);
        LayoutTokens y = Checks.of("\"" + Checks.times(299, "\\r") + "\"");
        y.read(false);
        CHECKS.due("a long print", y.print(), 2 + 1 + 5 * 299 + 1 + 2);
        CHECKS.due("its last letter", y.letter(1500), '}');
    }

    private static void back() {
        LayoutTokens x = Checks.of("f = do\n  \"\\n\" -- c\n  g");
        CHECKS.due("back before a print", x.back(), -1);
        CHECKS.due("told(0) then", x.told(0), 22);
        CHECKS.due("read", x.read(false), 10);
        CHECKS.due("back behind read", x.back(), -1);
        CHECKS.due("told(6) then", x.told(6), 1);
        CHECKS.due("print", x.print(), 26);
        CHECKS.due("back", x.back(), 26);
        CHECKS.due("told(0)", x.told(0), 26);
        for (int what = 1; what <= 6; what++) {
            CHECKS.due("told(" + what + ")", x.told(what), 0);
        }
        CHECKS.due("token", x.token(0, 0), -1);
        CHECKS.due("comment", x.comment(0, 0), -1);
        CHECKS.due("print of nothing", x.print(), -1);
        CHECKS.due("read", x.read(false), 10);
        CHECKS.due("tokens", Checks.shown(x), "13:{ 0:f 5:= 2:do 13:{ 12:10 13:; 0:g 13:} 13:}");
        x.clear();
        CHECKS.due("back behind clear", x.back(), 26);
        CHECKS.due("back again", x.back(), 26);
        CHECKS.due("column", x.column(25), 26);
        CHECKS.due("column", x.column(26), -1);
    }

    private static void backIsCut() {
        LayoutTokens x = Checks.of("{" + Checks.times(400, ";"));
        x.read(false);
        CHECKS.due("print", x.print(), 801);
        CHECKS.due("back", x.back(), 600);
        CHECKS.due("octets", x.octets(1, 97L), -1);
        CHECKS.due("read", x.read(false), 300);
        CHECKS.due("the letters stay", x.letter(800), ';');
    }
}
