/** Promises 3 and 6: NUMBERS and their values. */
public final class NumbersTest {
    private static final Checks CHECKS = new Checks();

    public static void main(String[] args) {
        whole();
        broken();
        values();
        CHECKS.end();
    }

    private static void whole() {
        CHECKS.dueTokens("0 12 007 0x1F 0XaB 0o17 0O7 0b101 0B1",
                "{ 9:0 9:12 9:007 9:0x1F 9:0XaB 9:0o17 9:0O7 9:0b101 9:0B1 }");
        CHECKS.dueTokens("0x 0xg 0o8 0b2 0B 0X", "{ 9:0 0:x 9:0 0:xg 9:0 0:o8 9:0 0:b2 9:0 1:B 9:0 1:X }");
        CHECKS.dueTokens("0o78 0b12 00x1 1x2 12a", "{ 9:0o7 9:8 9:0b1 9:2 9:00 0:x1 9:1 0:x2 9:12 0:a }");
    }

    private static void broken() {
        CHECKS.dueTokens("1.5 0.0 1e5 1E5 1e+5 1e-5 1.5e3 1.5E-12",
                "{ 10:1.5 10:0.0 10:1e5 10:1E5 10:1e+5 10:1e-5 10:1.5e3 10:1.5E-12 }");
        CHECKS.dueTokens("1. 1.e5 1e 1e+ 1.5e 1.5e- 1..2 .5",
                "{ 9:1 3:. 9:1 3:. 0:e5 9:1 0:e 9:1 0:e 3:+ 10:1.5 0:e 10:1.5 0:e 3:- 9:1 5:.. 9:2 3:. 9:5 }");
        CHECKS.dueTokens("0x1.5 0b1e5 0e1 1.2.3", "{ 9:0x1 3:. 9:5 9:0b1 0:e5 10:0e1 10:1.2 3:. 9:3 }");
        CHECKS.dueTokens("1e5e5 1.5", "{ 10:1e5 0:e5 10:1.5 }");
        CHECKS.dueTokens("1.", "{ 9:1 3:. }");
        CHECKS.dueTokens("1e", "{ 9:1 0:e }");
        CHECKS.dueTokens("1e-", "{ 9:1 0:e 3:- }");
    }

    private static void values() {
        value("0", 0L);
        value("42", 42L);
        value("0x1F", 31L);
        value("0XfF", 255L);
        value("0o17", 15L);
        value("0b1011", 11L);
        value("9223372036854775807", Long.MAX_VALUE);
        value("9223372036854775808", Long.MIN_VALUE);
        value("18446744073709551617", 1L);
        value("0xFFFFFFFFFFFFFFFF", -1L);
        value("0x10000000000000002", 2L);
        value("1.5", 0L);
        value("7e2", 0L);
        value("seven", 0L);
        value("'7'", 0L);
        LayoutTokens x = Checks.of("7");
        x.read(false);
        CHECKS.due("number(0), PUT IN", x.number(0), 0L);
        CHECKS.due("number(-1)", x.number(-1), 0L);
        CHECKS.due("number(3)", x.number(3), 0L);
        CHECKS.due("number(least)", x.number(Integer.MIN_VALUE), 0L);
    }

    private static void value(String text, long want) {
        LayoutTokens x = Checks.of(text);
        x.read(false);
        CHECKS.due("number of " + text, x.number(1), want);
    }
}
