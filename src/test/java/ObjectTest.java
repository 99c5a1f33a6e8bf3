/** Promises 1, 2, 13 and 14: a new object, octets, told, clear. */
public final class ObjectTest {
    private static final Checks CHECKS = new Checks();

    public static void main(String[] args) {
        newObject();
        octets();
        octetsKeepWhatIsRead();
        told();
        toldAfterFault();
        clear();
        CHECKS.end();
    }

    private static void newObject() {
        LayoutTokens x = new LayoutTokens();
        CHECKS.due("NONE", LayoutTokens.NONE, -1);
        for (int what = 0; what <= 6; what++) {
            CHECKS.due("told(" + what + ") of a new object", x.told(what), 0);
        }
        CHECKS.due("token", x.token(0, 0), -1);
        CHECKS.due("sign", x.sign(0, 0), -1);
        CHECKS.due("number", x.number(0), 0);
        CHECKS.due("asked", x.asked(0), false);
        CHECKS.due("column", x.column(0), -1);
        CHECKS.due("comment", x.comment(0, 0), -1);
        CHECKS.due("print", x.print(), -1);
        CHECKS.due("letter", x.letter(0), -1);
        CHECKS.due("back", x.back(), -1);
        CHECKS.due("clear", x.clear(), 0);
    }

    private static void octets() {
        LayoutTokens x = new LayoutTokens();
        CHECKS.due("octets(0, ..)", x.octets(0, 97L), -1);
        CHECKS.due("octets(9, ..)", x.octets(9, 97L), -1);
        CHECKS.due("octets(-1, ..)", x.octets(-1, 97L), -1);
        CHECKS.due("octets(least, ..)", x.octets(Integer.MIN_VALUE, 97L), -1);
        CHECKS.due("octets(greatest, ..)", x.octets(Integer.MAX_VALUE, 97L), -1);
        CHECKS.due("told(0)", x.told(0), 0);
        CHECKS.due("octets(1, a and more)", x.octets(1, 0x6261L), 1);
        CHECKS.due("octets(8, ..)", x.octets(8, 0x6867666564636261L), 9);
        CHECKS.due("octets(3, ..)", x.octets(3, -1L), 12);
        CHECKS.due("read", x.read(false), -2 - 9);
        LayoutTokens y = new LayoutTokens();
        y.octets(2, 0x6261L);
        y.read(false);
        CHECKS.due("the lowest first", Checks.signs(y, 1), "ab");
        LayoutTokens z = Checks.of(Checks.times(597, " "));
        CHECKS.due("octets beyond 600", z.octets(4, 0x61616161L), -1);
        CHECKS.due("told(0)", z.told(0), 597);
        CHECKS.due("octets up to 600", z.octets(3, 0x616161L), 600);
        CHECKS.due("octets beyond 600", z.octets(1, 0x61L), -1);
        CHECKS.due("read", z.read(false), 3);
    }

    private static void octetsKeepWhatIsRead() {
        LayoutTokens x = Checks.of("a\n");
        x.read(false);
        x.octets(2, 0x620AL);
        CHECKS.due("told(6)", x.told(6), 1);
        CHECKS.due("told(0)", x.told(0), 4);
        CHECKS.due("tokens", Checks.shown(x), "{ 0:a }");
        CHECKS.due("the end's place", x.token(2, 1), 2);
        CHECKS.due("the end's LINE", x.token(2, 3), 1);
        CHECKS.due("read anew", x.read(false), 5);
    }

    private static void told() {
        LayoutTokens x = Checks.of("a = (do b) {- {- -} -} -- c");
        CHECKS.due("read", x.read(false), 10);
        int[] due = {27, 10, 4, 1, 2, 2, 1};
        for (int what = 0; what < due.length; what++) {
            CHECKS.due("told(" + what + ")", x.told(what), due[what]);
        }
        CHECKS.due("told(-1)", x.told(-1), -1);
        CHECKS.due("told(7)", x.told(7), -1);
        CHECKS.due("told(greatest)", x.told(Integer.MAX_VALUE), -1);
        LayoutTokens y = Checks.of("{--}");
        y.read(false);
        CHECKS.due("told(5) of one", y.told(5), 1);
        LayoutTokens z = Checks.of("--");
        z.read(false);
        CHECKS.due("told(4) of one up to the end of the LINE", z.told(4), 1);
        CHECKS.due("told(5) without", z.told(5), 0);
    }

    private static void toldAfterFault() {
        LayoutTokens x = Checks.of("a {- -} b");
        CHECKS.due("read", x.read(false), 4);
        CHECKS.due("read as LITERATE", x.read(true), -2 - 9);
        CHECKS.due("told(0)", x.told(0), 9);
        for (int what = 1; what <= 6; what++) {
            CHECKS.due("told(" + what + ") after a FAULT", x.told(what), 0);
        }
        CHECKS.due("token", x.token(0, 0), -1);
        CHECKS.due("comment", x.comment(0, 0), -1);
        CHECKS.due("print", x.print(), -1);
        CHECKS.due("read again", x.read(false), 4);
        CHECKS.due("told(6)", x.told(6), 1);
    }

    private static void clear() {
        LayoutTokens x = Checks.of("a {- -} b");
        x.read(false);
        int letters = x.print();
        CHECKS.due("clear", x.clear(), 9);
        for (int what = 0; what <= 6; what++) {
            CHECKS.due("told(" + what + ") after clear", x.told(what), 0);
        }
        CHECKS.due("column", x.column(0), -1);
        CHECKS.due("token", x.token(0, 0), -1);
        CHECKS.due("print", x.print(), -1);
        CHECKS.due("the letters stay", Checks.letters(x, letters), "{ a b }");
        CHECKS.due("clear again", x.clear(), 0);
        CHECKS.due("octets", x.octets(1, 97L), 1);
        CHECKS.due("column", x.column(0), 1);
    }
}
