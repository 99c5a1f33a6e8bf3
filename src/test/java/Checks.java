import java.nio.charset.StandardCharsets;

/** What the tests share: texts fed to an object, tokens shown as a text, and the count of errors. */
final class Checks {
    private int made = 0;
    private int wrong = 0;

    void due(String what, long got, long want) {
        made++;
        if (got != want) {
            wrong++;
            System.out.println(what + " answered " + got + ", due is " + want);
        }
    }

    void due(String what, String got, String want) {
        made++;
        if (!got.equals(want)) {
            wrong++;
            System.out.println(what + " answered\n  " + got + "\ndue is\n  " + want);
        }
    }

    void due(String what, boolean got, boolean want) {
        due(what, got ? 1L : 0L, want ? 1L : 0L);
    }

    /** Read as a text that is not LITERATE: the answer of read. */
    void dueRead(String text, long want) {
        due("read of " + quoted(text), of(text).read(false), want);
    }

    /** Read as a text that is not LITERATE: the FAULT's place. */
    void dueFault(String text, int place) {
        dueRead(text, -2L - place);
    }

    void dueTokens(String text, String want) {
        due("tokens of " + quoted(text), tokensOf(text, false), want);
    }

    void dueLiterate(String text, String want) {
        due("tokens of LITERATE " + quoted(text), tokensOf(text, true), want);
    }

    void dueLiterateFault(String text, int place) {
        due("read of LITERATE " + quoted(text), of(text).read(true), -2L - place);
    }

    void duePrint(String text, String want) {
        LayoutTokens x = of(text);
        int count = x.read(false);
        due("print of " + quoted(text), count < 0 ? "fault " + (-2 - count) : printed(x), want);
    }

    void end() {
        System.out.println(made + " answers, " + wrong + " of them not as due");
        if (wrong != 0 || made == 0) {
            System.exit(1);
        }
    }

    private static String tokensOf(String text, boolean literate) {
        LayoutTokens x = of(text);
        int count = x.read(literate);
        return count < 0 ? "fault " + (-2 - count) : shown(x);
    }

    /** A new object with that text, read already. */
    static LayoutTokens readOf(String text) {
        LayoutTokens x = of(text);
        x.read(false);
        return x;
    }

    static LayoutTokens of(String text) {
        LayoutTokens x = new LayoutTokens();
        feed(x, text);
        return x;
    }

    /** Answers what the last call of octets answered. */
    static int feed(LayoutTokens x, String text) {
        byte[] octets = text.getBytes(StandardCharsets.ISO_8859_1);
        int answer = 0;
        for (int i = 0; i < octets.length; i += 8) {
            int n = Math.min(8, octets.length - i);
            long packed = 0;
            for (int j = 0; j < n; j++) {
                packed |= (octets[i + j] & 255L) << (8 * j);
            }
            answer = x.octets(n, packed);
        }
        return answer;
    }

    /** Each token as kind:signs, those PUT IN as { ; } and with a ? behind it if it was ASKED. */
    static String shown(LayoutTokens x) {
        StringBuilder all = new StringBuilder();
        for (int k = 0; k < x.told(1); k++) {
            all.append(k > 0 ? " " : "").append(shown(x, k));
        }
        return all.toString();
    }

    private static String shown(LayoutTokens x, int k) {
        int kind = x.token(k, 0);
        String shown = kind + ":" + signs(x, k);
        if (kind >= 14) {
            shown = kind == 14 ? "{" : kind == 15 ? ";" : "}";
        }
        return x.asked(k) ? shown + "?" : shown;
    }

    static String signs(LayoutTokens x, int k) {
        StringBuilder all = new StringBuilder();
        boolean isQuoted = x.token(k, 0) == 11 || x.token(k, 0) == 12;
        for (int i = 0; i < x.token(k, 5); i++) {
            if (isQuoted) {
                all.append(i > 0 ? "," : "").append(x.sign(k, i));
            } else {
                all.append((char) x.sign(k, i));
            }
        }
        return all.toString();
    }

    static String printed(LayoutTokens x) {
        int count = x.print();
        return count < 0 ? "none" : letters(x, count);
    }

    static String letters(LayoutTokens x, int count) {
        StringBuilder all = new StringBuilder();
        for (int i = 0; i < count; i++) {
            all.append((char) x.letter(i));
        }
        return all.toString();
    }

    /** All that can be asked of an object, so that two moments can be held against each other. */
    static String state(LayoutTokens x) {
        StringBuilder all = new StringBuilder();
        for (int what = 0; what <= 6; what++) {
            all.append(x.told(what)).append(' ');
        }
        for (int k = 0; k <= x.told(1); k++) {
            for (int what = 0; what <= 5; what++) {
                all.append(x.token(k, what)).append(' ');
            }
            all.append(signs(x, k)).append(' ').append(x.number(k)).append(x.asked(k)).append('\n');
        }
        for (int k = 0; k <= x.told(4); k++) {
            all.append(x.comment(k, 0)).append(' ').append(x.comment(k, 1)).append(' ').append(x.comment(k, 2)).append('\n');
        }
        for (int place = 0; place <= x.told(0); place++) {
            all.append(x.column(place)).append(' ');
        }
        for (int i = 0; i == 0 || x.letter(i - 1) >= 0; i++) {
            all.append(x.letter(i)).append(' ');
        }
        return all.toString();
    }

    static String times(int n, String text) {
        StringBuilder all = new StringBuilder();
        for (int i = 0; i < n; i++) {
            all.append(text);
        }
        return all.toString();
    }

    private static String quoted(String text) {
        StringBuilder all = new StringBuilder("<");
        for (int i = 0; i < text.length(); i++) {
            char letter = text.charAt(i);
            if (letter >= 32 && letter <= 126) {
                all.append(letter);
            } else {
                all.append('[').append((int) letter).append(']');
            }
        }
        return all.append('>').toString();
    }
}
