/** Promises 3, 8 and 9: COMMENTS, COLUMNS and LINES. */
public final class CommentsTest {
    private static final Checks CHECKS = new Checks();

    public static void main(String[] args) {
        lineComments();
        nestedComments();
        depths();
        places();
        columns();
        CHECKS.end();
    }

    private static void lineComments() {
        CHECKS.dueTokens("a -- b\n c", "{ 0:a 0:c }");
        CHECKS.dueTokens("a --- b\r c", "{ 0:a 0:c }");
        CHECKS.dueTokens("a--b", "{ 0:a }");
        CHECKS.dueTokens("a --", "{ 0:a }");
        CHECKS.dueTokens("a --( \u0001\u00ff", "{ 0:a }");
        CHECKS.dueTokens("a --> b", "{ 0:a 3:--> 0:b }");
        CHECKS.dueTokens("a --: b", "{ 0:a 3:--: 0:b }");
        CHECKS.dueTokens("a -- {-\n b", "{ 0:a 0:b }");
        CHECKS.dueTokens("a - - b", "{ 0:a 3:- 3:- 0:b }");
    }

    private static void nestedComments() {
        CHECKS.dueTokens("a{-b-}c", "{ 0:a 0:c }");
        CHECKS.dueTokens("{--}a", "{ 0:a }");
        CHECKS.dueTokens("{-{-}-}-}a", "{ 0:a }");
        CHECKS.dueTokens("{- -- -}a", "{ 0:a }");
        CHECKS.dueTokens("{- \"-}\" -}", "fault 10");
        CHECKS.dueTokens("{- \u0001 \u00ff \n -}a", "{ 0:a }");
        CHECKS.dueTokens("{ -a }", "13:{ 3:- 0:a 13:}");
        CHECKS.dueFault("{-}", 0);
        CHECKS.dueFault("a {- {- -}", 2);
        CHECKS.dueFault("a {-", 2);
        CHECKS.dueFault("a {- -} {- -", 8);
        CHECKS.dueFault("{-{--}", 0);
    }

    private static void depths() {
        LayoutTokens x = Checks.of(Checks.times(30, "{-") + Checks.times(30, "-}") + " {- {- -} -}");
        CHECKS.due("30 deep", x.read(false), 2);
        CHECKS.due("told(5)", x.told(5), 30);
        CHECKS.due("told(4)", x.told(4), 2);
        CHECKS.dueFault("a " + Checks.times(31, "{-") + Checks.times(31, "-}"), 62);
        CHECKS.dueFault(Checks.times(31, "{-"), 60);
        CHECKS.dueFault(Checks.times(30, "{-"), 0);
        LayoutTokens y = Checks.of("{-" + Checks.times(40, "{--}") + "-}");
        CHECKS.due("40 beside one another", y.read(false), 2);
        CHECKS.due("told(5)", y.told(5), 2);
    }

    private static void places() {
        LayoutTokens x = Checks.of("a --b\r\n{- {- -} \n-} c ---\n--");
        CHECKS.due("read", x.read(false), 4);
        int[][] due = {{2, 3, 0}, {7, 12, 1}, {22, 3, 0}, {26, 2, 0}};
        for (int k = 0; k < due.length; k++) {
            for (int what = 0; what < 3; what++) {
                CHECKS.due("comment(" + k + ", " + what + ")", x.comment(k, what), due[k][what]);
            }
            CHECKS.due("what = 3", x.comment(k, 3), -1);
            CHECKS.due("what = -1", x.comment(k, -1), -1);
        }
        CHECKS.due("comment(4, 0)", x.comment(4, 0), -1);
        CHECKS.due("comment(-1, 0)", x.comment(-1, 0), -1);
        CHECKS.due("comment(greatest, 0)", x.comment(Integer.MAX_VALUE, 0), -1);
        LayoutTokens y = Checks.of(Checks.times(200, "--\n"));
        CHECKS.due("read", y.read(false), 2);
        CHECKS.due("the most COMMENTS", y.told(4), 200);
        CHECKS.due("the last COMMENT", y.comment(199, 0), 597);
    }

    private static void columns() {
        LayoutTokens x = Checks.of("a\tb\t\tc\nd\r\ne\r\rf\n\rg       \th");
        int[] due = {1, 2, 9, 10, 17, 25, 26, 1, 2, 3, 1, 2, 1, 1, 2, 1, 1, 2, 3, 4, 5, 6, 7, 8, 9, 17};
        for (int place = 0; place < due.length; place++) {
            CHECKS.due("column(" + place + ")", x.column(place), due[place]);
        }
        CHECKS.due("column of the size", x.column(due.length), -1);
        CHECKS.due("column(-1)", x.column(-1), -1);
        CHECKS.due("column(greatest)", x.column(Integer.MAX_VALUE), -1);
        x.read(false);
        CHECKS.due("tokens", Checks.shown(x), "{ 0:a 0:b 0:c ; 0:d ; 0:e ; 0:f ; 0:g 0:h }");
        int[] lines = {1, 1, 1, 1, 2, 2, 3, 3, 5, 5, 7, 7, 7, 7};
        for (int k = 0; k < lines.length; k++) {
            CHECKS.due("LINE of " + k, x.token(k, 3), lines[k]);
        }
        LayoutTokens y = Checks.of("a\n\n");
        y.read(false);
        CHECKS.due("LINE of the end", y.token(2, 3), 2);
    }
}
