import java.util.Random;

/**
 * Many texts made of parts: no call throws, the tokens lie in order, and what is printed reads
 * alike. The seed is fixed, so that each run is the same.
 */
public final class RandomTest {
    private static final String[] PARTS = {
        "a", "B", "M.", "M.n", "x'", "_", "do", "of", "let", "in", "where", "if", "then", "else",
        "case", "module", "(", ")", "[", "]", "{", "}", ",", ";", "`", "=", "-", "--", "->", "{-",
        "-}", "..", ".", ":", "0", "0x1F", "1.5e3", "e", "'c'", "'\\n'", "\"t\"", "\"\\SO\\&H\"",
        "\"\\\n \\\"", "'", "\"", "\\", "\n", "\n", "\n", "\r\n", "\r", "\t", " ", "  ", "    ",
        "> ", ">", "\n> ", "\n> ", "\u0001", "\u00ff",
    };
    private static final Checks CHECKS = new Checks();
    private static int roundTrips = 0;

    public static void main(String[] args) {
        Random random = new Random(20261115L);
        LayoutTokens x = new LayoutTokens();
        for (int round = 0; round < 60000; round++) {
            if (round % 50 == 0) {
                x = new LayoutTokens();
            }
            x.clear();
            Checks.feed(x, text(random));
            int count = x.read(random.nextInt(8) == 0);
            if (count >= 0) {
                dueOrder(x, count);
                dueAlike(x, count);
            } else {
                CHECKS.due("told(1) after a FAULT", x.told(1), 0);
                CHECKS.due("the place is in THE TEXT", -2 - count <= x.told(0), true);
            }
        }
        CHECKS.due("enough of them could be read again", roundTrips > 5000, true);
        anyArguments(random);
        CHECKS.end();
    }

    private static String text(Random random) {
        StringBuilder all = new StringBuilder();
        int parts = 1 + random.nextInt(random.nextInt(10) == 0 ? 200 : 25);
        boolean isLoose = random.nextBoolean();
        for (int i = 0; i < parts; i++) {
            int least = random.nextInt(4) == 0 ? 0 : random.nextInt(PARTS.length - 12);
            all.append(PARTS[Math.min(PARTS.length - 1, least + random.nextInt(6))]);
            all.append(isLoose ? random.nextInt(4) == 0 ? "\n  " : " " : "");
        }
        return all.substring(0, Math.min(600, all.length()));
    }

    private static void dueOrder(LayoutTokens x, int count) {
        int behind = 0;
        int putIn = 0;
        for (int k = 0; k < count; k++) {
            CHECKS.due("the places rise", x.token(k, 1) >= behind, true);
            behind = x.token(k, 1) + x.token(k, 2);
            putIn += x.token(k, 0) >= 14 ? 1 : 0;
        }
        CHECKS.due("told(1)", x.told(1), count);
        CHECKS.due("told(2)", x.told(2), putIn);
    }

    private static void dueAlike(LayoutTokens x, int count) {
        String before = withoutLayout(x);
        boolean isParted = before.matches("(.* )?2:(let|where|do|of) [^{].*");
        int letters = x.print();
        CHECKS.due("back", x.back(), Math.min(600, letters));
        // A { first on its LINE may have ; or } PUT IN ahead of it: then it is not next behind let.
        if (letters <= 600 && !isParted) {
            roundTrips++;
            CHECKS.due("read again", x.read(false), count);
            CHECKS.due("the tokens again", withoutLayout(x), before);
            CHECKS.due("nothing more is PUT IN", x.told(2), 0);
            CHECKS.due("printed again", x.print(), letters);
        }
    }

    private static String withoutLayout(LayoutTokens x) {
        return Checks.shown(x).replace("13:{", "{").replace("13:;", ";").replace("13:}", "}").replace("}?", "}");
    }

    private static void anyArguments(Random random) {
        int[] edges = {Integer.MIN_VALUE, -2, -1, 0, 1, 2, 8, 9, 499, 500, 599, 600, 2999, 3000, Integer.MAX_VALUE};
        for (int round = 0; round < 200; round++) {
            LayoutTokens x = Checks.of(text(random));
            x.read(false);
            x.print();
            for (int a : edges) {
                for (int b : edges) {
                    x.token(a, b);
                    x.sign(a, b);
                    x.comment(a, b);
                }
                x.number(a);
                x.asked(a);
                x.column(a);
                x.letter(a);
                x.told(a);
                x.octets(a, random.nextLong());
            }
            x.read(round % 2 == 0);
        }
    }
}
