/** The edges of CHARACTERS and TEXTS in '2 TOKENS', a method for each sentence that names one. */
public final class QuoteEdgesTest {
    private static final Checks CHECKS = new Checks();
    private static final String[] NAMES = {
        "NUL", "SOH", "STX", "ETX", "EOT", "ENQ", "ACK", "BEL", "BS", "HT", "LF", "VT", "FF", "CR",
        "SO", "SI", "DLE", "DC1", "DC2", "DC3", "DC4", "NAK", "SYN", "ETB", "CAN", "EM", "SUB",
        "ESC", "FS", "GS", "RS", "US", "SP", "DEL",
    };

    public static void main(String[] args) {
        octetsOfCharacters();
        octetsOfTexts();
        charactersOfOneCode();
        longestText();
        escapesOfOneLetter();
        controls();
        values();
        valuesTooGreat();
        valuesFarTooGreat();
        names();
        namesCut();
        soOnlyWhereNoH();
        nothingInTexts();
        gaps();
        gapsWithoutEnd();
        gapsInCharacters();
        theEnd();
        escapesThatAreNone();
        theFirstFault();
        CHECKS.end();
    }

    /** An octet 32 to 126 that is not ' or \ . */
    private static void octetsOfCharacters() {
        for (int octet = 0; octet < 256; octet++) {
            if (octet == '\\') {
                continue;
            }
            boolean stands = octet >= 32 && octet <= 126 && octet != '\'';
            CHECKS.dueTokens("'" + (char) octet + "'", stands ? "{ 11:" + octet + " }" : "fault 1");
        }
        CHECKS.dueFault("'\\'", 3);
        CHECKS.dueTokens("'\\''", "{ 11:39 }");
        CHECKS.dueTokens("'\\\\'", "{ 11:92 }");
    }

    /** Octets 32 to 126 that are not " or \ . */
    private static void octetsOfTexts() {
        for (int octet = 0; octet < 256; octet++) {
            if (octet == '\\' || octet == '"') {
                continue;
            }
            boolean stands = octet >= 32 && octet <= 126;
            CHECKS.dueTokens("\"a" + (char) octet + "\"", stands ? "{ 12:97," + octet + " }" : "fault 2");
        }
        CHECKS.dueTokens("\"a\"\"\"", "{ 12:97 12: }");
        CHECKS.dueFault("\"a\"\"", 4);
        CHECKS.dueFault("\"a\\\"", 4);
        CHECKS.dueTokens("\"'\"", "{ 12:39 }");
    }

    /** ' , then one of ..; then ' . */
    private static void charactersOfOneCode() {
        CHECKS.dueFault("''", 1);
        CHECKS.dueFault("'''", 1);
        CHECKS.dueFault("'ab'", 2);
        CHECKS.dueFault("'a", 2);
        CHECKS.dueFault("'a\n'", 2);
        CHECKS.dueFault("'\\nb'", 3);
        CHECKS.dueFault("'\\65b'", 4);
        CHECKS.dueFault("'\\SOH\\SOH'", 5);
        CHECKS.dueTokens("'a''b'", "{ 11:97 11:98 }");
        CHECKS.due("octets of '\\1114111'", Checks.readOf("'\\1114111'").token(1, 2), 10);
        CHECKS.due("SIGNS of '\\1114111'", Checks.readOf("'\\1114111'").token(1, 5), 1);
    }

    private static void longestText() {
        LayoutTokens x = Checks.readOf("\"" + Checks.times(598, "~") + "\"");
        CHECKS.due("octets", x.token(1, 2), 600);
        CHECKS.due("SIGNS", x.token(1, 5), 598);
        CHECKS.due("SIGN 597", x.sign(1, 597), 126);
        CHECKS.due("SIGN 598", x.sign(1, 598), -1);
        LayoutTokens y = Checks.readOf("\"\"");
        CHECKS.due("octets of an empty TEXT", y.token(1, 2), 2);
        CHECKS.due("SIGNS of an empty TEXT", y.token(1, 5), 0);
        CHECKS.due("SIGN 0 of an empty TEXT", y.sign(1, 0), -1);
        LayoutTokens z = Checks.readOf("\"\\&\\  \\\\&\"");
        CHECKS.due("octets of a TEXT of nothing", z.token(1, 2), 10);
        CHECKS.due("its SIGNS", z.token(1, 5), 0);
        CHECKS.dueFault("\"" + Checks.times(599, "~"), 600);
    }

    /** ESCAPES: \ and one of abfnrtv\"' ; what begins none is a FAULT at it. */
    private static void escapesOfOneLetter() {
        String letters = "abfnrtv\\\"'";
        int[] codes = {7, 8, 12, 10, 13, 9, 11, 92, 34, 39};
        for (int octet = 0; octet < 256; octet++) {
            boolean isFigure = octet >= '0' && octet <= '9';
            boolean isBlank = octet == 32 || octet >= 9 && octet <= 13;
            if (isFigure || isBlank || octet == '&') {
                continue;
            }
            int at = letters.indexOf(octet);
            CHECKS.dueTokens("\"\\" + (char) octet + "\"", at < 0 ? "fault 2" : "{ 12:" + codes[at] + " }");
            CHECKS.dueTokens("'\\" + (char) octet + "'", at < 0 ? "fault 2" : "{ 11:" + codes[at] + " }");
        }
        for (int figure = 0; figure <= 9; figure++) {
            CHECKS.dueTokens("\"\\" + figure + "\"", "{ 12:" + figure + " }");
            CHECKS.dueTokens("'\\" + figure + "'", "{ 11:" + figure + " }");
        }
    }

    /** ^ and one of A to Z, [ \ ] ^ _ @ (that octet and 31). */
    private static void controls() {
        for (int octet = 0; octet < 256; octet++) {
            boolean stands = octet >= 'A' && octet <= 'Z' || "[\\]^_@".indexOf(octet) >= 0;
            int due = octet == '@' ? 0 : octet - 64;
            CHECKS.dueTokens("\"\\^" + (char) octet + "\"", stands ? "{ 12:" + due + " }" : "fault 2");
            CHECKS.dueTokens("'\\^" + (char) octet + "'", stands ? "{ 11:" + due + " }" : "fault 2");
        }
        CHECKS.dueTokens("\"\\^AB\\^\\n\"", "{ 12:1,66,28,110 }");
    }

    /** Figures, o and 0 to 7s, x and figures of sixteen (a value up to 1114111). */
    private static void values() {
        CHECKS.dueTokens("'\\0' '\\00' '\\o0' '\\x0'", "{ 11:0 11:0 11:0 11:0 }");
        CHECKS.dueTokens("'\\1114110' '\\1114111' '\\0001114111'", "{ 11:1114110 11:1114111 11:1114111 }");
        CHECKS.dueTokens("'\\o4177776' '\\o4177777' '\\o004177777'", "{ 11:1114110 11:1114111 11:1114111 }");
        CHECKS.dueTokens("'\\x10fffe' '\\x10FFFF' '\\x0010fFfF'", "{ 11:1114110 11:1114111 11:1114111 }");
        CHECKS.dueTokens("\"\\9:\\9/\\o78\\o7/\\x9g\\xf:\\xFG\\xa@\\xA`\"",
                "{ 12:9,58,9,47,7,56,7,47,9,103,15,58,15,71,10,64,10,96 }");
        CHECKS.dueTokens("\"\\" + Checks.times(580, "0") + "1\"", "{ 12:1 }");
        CHECKS.dueTokens("\"\\12\\34\\x56\\o7\"", "{ 12:12,34,86,7 }");
    }

    /** A value that is too great: its last figure. */
    private static void valuesTooGreat() {
        CHECKS.dueFault("'\\1114112'", 8);
        CHECKS.dueFault("'\\o4200000'", 9);
        CHECKS.dueFault("'\\x110000'", 8);
        CHECKS.dueFault("\"\\1114112\"", 8);
        CHECKS.dueFault("\"\\11141110\"", 9);
        CHECKS.dueFault("\"\\1114112", 8);
        CHECKS.dueFault("\"\\1114112a\"", 8);
        CHECKS.dueFault("\"\\x1100000g\"", 9);
        CHECKS.dueFault("\"\\o42000008\"", 9);
        CHECKS.dueFault("\"ab\\2000000\\q\"", 10);
    }

    /** Neither an int's nor a long's wrap-around makes a great value small again. */
    private static void valuesFarTooGreat() {
        CHECKS.dueFault("\"\\4294967296\"", 11);
        CHECKS.dueFault("\"\\4294967361\"", 11);
        CHECKS.dueFault("\"\\18446744073709551616\"", 21);
        CHECKS.dueFault("\"\\18446744073709551681\"", 21);
        CHECKS.dueFault("\"\\x100000041\"", 11);
        CHECKS.dueFault("\"\\x10000000000000041\"", 19);
        CHECKS.dueFault("\"\\o40000000101\"", 13);
        CHECKS.dueFault("\"\\o2000000000000000000101\"", 24);
        CHECKS.dueFault("\"\\" + Checks.times(597, "9") + "\"", 598);
        CHECKS.dueFault("\"\\" + Checks.times(598, "9"), 599);
        CHECKS.dueFault("\"\\1" + Checks.times(500, "0") + "65\"", 504);
    }

    /** The names: 0 to 32 in this order and 127. */
    private static void names() {
        StringBuilder text = new StringBuilder("\"");
        StringBuilder due = new StringBuilder("{ 12:");
        for (int k = 0; k < NAMES.length; k++) {
            int code = k == 33 ? 127 : k;
            CHECKS.dueTokens("'\\" + NAMES[k] + "'", "{ 11:" + code + " }");
            CHECKS.dueTokens("\"\\" + NAMES[k] + "z\\" + NAMES[k] + "0\"", "{ 12:" + code + ",122," + code + ",48 }");
            CHECKS.due("octets of " + NAMES[k], Checks.readOf("'\\" + NAMES[k] + "'").token(1, 2), NAMES[k].length() + 3);
            text.append('\\').append(NAMES[k]);
            due.append(k > 0 ? "," : "").append(code);
        }
        CHECKS.dueTokens(text + "\"", due + " }");
    }

    private static void namesCut() {
        for (String name : NAMES) {
            String cut = name.substring(0, name.length() - 1);
            boolean isName = false;
            for (String other : NAMES) {
                isName |= other.equals(cut);
            }
            if (!isName) {
                CHECKS.dueFault("\"a\\" + cut, 3);
                CHECKS.dueFault("\"a\\" + cut + "\"", 3);
                CHECKS.dueFault("\"a\\" + cut + "z\"", 3);
            }
        }
        CHECKS.dueFault("\"\\DC0\"", 2);
        CHECKS.dueFault("\"\\DC5\"", 2);
        CHECKS.dueFault("\"\\del\"", 2);
        CHECKS.dueFault("\"\\Nul\"", 2);
        CHECKS.dueTokens("\"\\nul\"", "{ 12:10,117,108 }");
    }

    /** SO only where no H follows at once: SOH. */
    private static void soOnlyWhereNoH() {
        CHECKS.dueTokens("\"\\SO\"", "{ 12:14 }");
        CHECKS.dueTokens("\"\\SOH\"", "{ 12:1 }");
        CHECKS.dueTokens("\"\\SOHH\"", "{ 12:1,72 }");
        CHECKS.dueTokens("\"\\SOh\"", "{ 12:14,104 }");
        CHECKS.dueTokens("\"\\SO\\&H\"", "{ 12:14,72 }");
        CHECKS.dueTokens("\"\\SO\\\n\\H\"", "{ 12:14,72 }");
        CHECKS.dueTokens("\"\\SO\\HT\"", "{ 12:14,9 }");
        CHECKS.dueTokens("'\\SO' '\\SOH'", "{ 11:14 11:1 }");
        CHECKS.dueFault("'\\SOHH'", 5);
    }

    /** & (nothing, in TEXTS alone); a CHARACTER's ESCAPE is not \& . */
    private static void nothingInTexts() {
        CHECKS.dueTokens("\"\\&\" \"\\&\\&\" \"a\\&b\" \"\\1\\&2\"", "{ 12: 12: 12:97,98 12:1,50 }");
        CHECKS.dueFault("'\\&'", 2);
        CHECKS.dueFault("'\\&a'", 2);
        CHECKS.dueFault("'a\\&'", 2);
    }

    /** GAPS (\, one or more BLANKS, \). */
    private static void gaps() {
        for (String blank : new String[] {" ", "\t", "\u000b", "\u000c", "\n", "\r", "\r\n"}) {
            CHECKS.dueTokens("\"a\\" + blank + "\\b\"", "{ 12:97,98 }");
            CHECKS.dueTokens("\"a\\" + blank + blank + "\\b\"", "{ 12:97,98 }");
            CHECKS.dueTokens("\"\\" + blank + "\\\"", "{ 12: }");
        }
        CHECKS.dueTokens("\"a\\\\b\"", "{ 12:97,92,98 }");
        CHECKS.dueTokens("\"a\\ \\\\ \\b\"", "{ 12:97,98 }");
        CHECKS.dueTokens("\"a\\ \\\\\\b\"", "{ 12:97,92,98 }");
        CHECKS.dueTokens("\"\\1\\ \\2\"", "{ 12:1,50 }");
        CHECKS.dueTokens("\"\\" + Checks.times(596, "\n") + "\\\"", "{ 12: }");
        for (int octet = 0; octet < 256; octet++) {
            boolean isBlank = octet == 32 || octet >= 9 && octet <= 13;
            if (!isBlank && octet != '\\') {
                CHECKS.dueFault("\"a\\ " + (char) octet + "\\b\"", 4);
            }
        }
    }

    private static void gapsWithoutEnd() {
        CHECKS.dueFault("\"a\\ ", 4);
        CHECKS.dueFault("\"a\\ \n\n", 6);
        CHECKS.dueFault("\"a\\ \"", 4);
        CHECKS.dueFault("\"a\\ \\", 5);
        CHECKS.dueFault("\"a\\" + Checks.times(597, " "), 600);
    }

    private static void gapsInCharacters() {
        for (String blank : new String[] {" ", "\t", "\u000b", "\u000c", "\n", "\r"}) {
            CHECKS.dueFault("'\\" + blank + "\\a'", 2);
        }
        CHECKS.dueFault("'a\\ \\'", 2);
    }

    /** The end: its size. */
    private static void theEnd() {
        CHECKS.dueFault("'", 1);
        CHECKS.dueFault("'a", 2);
        CHECKS.dueFault("'\\a", 3);
        CHECKS.dueFault("'\\65", 4);
        CHECKS.dueFault("'\\NUL", 5);
        CHECKS.dueFault("\"", 1);
        CHECKS.dueFault("\"a", 2);
        CHECKS.dueFault("\"\\a", 3);
        CHECKS.dueFault("\"\\&", 3);
        CHECKS.dueFault("\"\\1114111", 9);
        CHECKS.dueFault(Checks.times(599, " ") + "'", 600);
        CHECKS.dueFault(Checks.times(599, " ") + "\"", 600);
    }

    /** An ESCAPE that is none, whatever lacks: its octet behind the \, or the size. */
    private static void escapesThatAreNone() {
        CHECKS.dueFault("'\\", 2);
        CHECKS.dueFault("\"ab\\", 4);
        CHECKS.dueFault(Checks.times(598, " ") + "\"\\", 600);
        for (String begun : new String[] {"o", "x", "^", "N", "NU", "S", "D", "DC", "E", "q", "!", "o8", "xg", "^a"}) {
            CHECKS.dueFault("\"ab\\" + begun, 4);
            CHECKS.dueFault("\"ab\\" + begun + "\"", 4);
            CHECKS.dueFault("'\\" + begun, 2);
            CHECKS.dueFault("'\\" + begun + "'", 2);
        }
        CHECKS.dueFault("\"ab\\X41\"", 4);
        CHECKS.dueFault("\"ab\\O101\"", 4);
        CHECKS.dueFault("\"ab\\-1\"", 4);
        CHECKS.dueFault("\"ab\\\u0000\"", 4);
        CHECKS.dueFault("\"ab\\\u00ff\"", 4);
    }

    /** Within a CHARACTER or TEXT that of the first octet that can't stand there. */
    private static void theFirstFault() {
        CHECKS.dueFault("\"\u0001\\q", 1);
        CHECKS.dueFault("\"\\q\u0001", 2);
        CHECKS.dueFault("a 'b' 'cd' \u0001", 8);
        CHECKS.dueFault("\"ok\" \"a\nb\"", 7);
        CHECKS.dueFault("\"ok\" \"a\\\u0001", 8);
    }
}
