/** Promises 3, 4, 5: names, operators, QUALIFIED ones, SPECIAL ones and what is asked of them. */
public final class NamesTest {
    private static final Checks CHECKS = new Checks();

    public static void main(String[] args) {
        names();
        operators();
        qualified();
        special();
        whatIsAsked();
        noTokenCanBegin();
        CHECKS.end();
    }

    private static void names() {
        CHECKS.dueTokens("a b_1' _a Bc _ __ a'b''", "{ 0:a 0:b_1' 0:_a 1:Bc 2:_ 0:__ 0:a'b'' }");
        CHECKS.dueTokens("module case class data default deriving else foreign if import",
                "2:module 2:case 2:class 2:data 2:default 2:deriving 2:else 2:foreign 2:if 2:import");
        CHECKS.dueTokens("module in infix infixl infixr instance newtype then type",
                "2:module 2:in 2:infix 2:infixl 2:infixr 2:instance 2:newtype 2:then 2:type");
        CHECKS.dueTokens("module let{do{of{where{", "2:module 2:let 13:{ 2:do 13:{ 2:of 13:{ 2:where 13:{");
        CHECKS.dueTokens("cas cases case' Case infixs instances",
                "{ 0:cas 0:cases 0:case' 1:Case 0:infixs 0:instances }");
        CHECKS.dueTokens("azAZ09_' zaZA Az0 Z9", "{ 0:azAZ09_' 0:zaZA 1:Az0 1:Z9 }");
        CHECKS.dueTokens("derivingx i whe wheres", "{ 0:derivingx 0:i 0:whe 0:wheres }");
    }

    private static void operators() {
        CHECKS.dueTokens("+ ! # $ % & * . / < > ? ^ -",
                "{ 3:+ 3:! 3:# 3:$ 3:% 3:& 3:* 3:. 3:/ 3:< 3:> 3:? 3:^ 3:- }");
        CHECKS.dueTokens(".. : :: = \\ | <- -> @ ~ =>",
                "{ 5:.. 5:: 5::: 5:= 5:\\ 5:| 5:<- 5:-> 5:@ 5:~ 5:=> }");
        CHECKS.dueTokens(":+ ::: :| ... <-- ->> == || \\\\ ~~ @@ <= =>> .= |-- --> --|",
                "{ 4::+ 4:::: 4::| 3:... 3:<-- 3:->> 3:== 3:|| 3:\\\\ 3:~~ 3:@@ 3:<= 3:=>> 3:.= "
                + "3:|-- 3:--> 3:--| }");
        CHECKS.dueTokens("-+ +> :> <> <+ => >= >- .: :. =<", "{ 3:-+ 3:+> 4::> 3:<> 3:<+ 5:=> 3:>= 3:>- 3:.: 4::. 3:=< }");
        CHECKS.dueTokens("a+b-c", "{ 0:a 3:+ 0:b 3:- 0:c }");
    }

    private static void qualified() {
        CHECKS.dueTokens("M.a M.N.b M.N M.N.O M._a", "{ 6:M.a 6:M.N.b 7:M.N 7:M.N.O 6:M._a }");
        CHECKS.dueTokens("M.+ M.N.:+ M.. M..+ M.- M.--> M.|--",
                "{ 8:M.+ 8:M.N.:+ 8:M.. 8:M..+ 8:M.- 8:M.--> 8:M.|-- }");
        CHECKS.dueTokens("module M.where{ M._ M.in M.N.if",
                "2:module 1:M 3:. 2:where 13:{ 1:M 3:. 2:_ 1:M 3:. 2:in 7:M.N 3:. 2:if");
        CHECKS.dueTokens("M.= M.: M.:: M... M.-> M.\\ M.N.@",
                "{ 1:M 3:.= 1:M 3:.: 1:M 3:.:: 1:M 3:... 1:M 3:.-> 1:M 3:.\\ 7:M.N 3:.@ }");
        CHECKS.dueTokens("M.-- a", "{ 1:M 3:.-- 0:a }");
        CHECKS.dueTokens("M.--- a", "{ 1:M 3:.--- 0:a }");
        CHECKS.dueTokens("M. a M .a M.1 M.(", "{ 1:M 3:. 0:a 1:M 3:. 0:a 1:M 3:. 9:1 1:M 3:. 13:( ".trim());
        CHECKS.dueTokens("m.a X.y.z X.y.Z", "{ 0:m 3:. 0:a 6:X.y 3:. 0:z 6:X.y 3:. 1:Z }");
        CHECKS.dueTokens("M.N'.a' M.....", "{ 6:M.N'.a' 8:M..... }");
        CHECKS.dueTokens("M.", "{ 1:M 3:. }");
    }

    private static void special() {
        CHECKS.dueTokens("{()[],;`}", "13:{ 13:( 13:) 13:[ 13:] 13:, 13:; 13:` 13:}");
    }

    private static void whatIsAsked() {
        LayoutTokens x = Checks.of("a\r\n\tM.bc = 'x'");
        CHECKS.due("read", x.read(false), 6);
        int[][] due = {
            {14, 0, 0, 1, 1, 0}, {0, 0, 1, 1, 1, 1}, {6, 4, 4, 2, 9, 4},
            {5, 9, 1, 2, 14, 1}, {11, 11, 3, 2, 16, 1}, {16, 14, 0, 2, 0, 0},
        };
        for (int k = 0; k < due.length; k++) {
            for (int what = 0; what < 6; what++) {
                CHECKS.due("token(" + k + ", " + what + ")", x.token(k, what), due[k][what]);
            }
            CHECKS.due("what = -1", x.token(k, -1), -1);
            CHECKS.due("what = 6", x.token(k, 6), -1);
        }
        CHECKS.due("token(-1, 0)", x.token(-1, 0), -1);
        CHECKS.due("token(6, 0)", x.token(6, 0), -1);
        CHECKS.due("token(greatest, 2)", x.token(Integer.MAX_VALUE, 2), -1);
        CHECKS.due("sign(2, 0)", x.sign(2, 0), 'M');
        CHECKS.due("sign(2, 1)", x.sign(2, 1), '.');
        CHECKS.due("sign(2, 3)", x.sign(2, 3), 'c');
        CHECKS.due("sign(2, 4)", x.sign(2, 4), -1);
        CHECKS.due("sign(2, -1)", x.sign(2, -1), -1);
        CHECKS.due("sign(4, 0)", x.sign(4, 0), 'x');
        CHECKS.due("sign(0, 0)", x.sign(0, 0), -1);
        CHECKS.due("sign(-1, 0)", x.sign(-1, 0), -1);
        CHECKS.due("sign(6, 0)", x.sign(6, 0), -1);
    }

    private static void noTokenCanBegin() {
        CHECKS.dueFault("a \u0001", 2);
        CHECKS.dueFault("a \u007f b", 2);
        CHECKS.dueFault("\u00e9", 0);
        CHECKS.dueFault("ab\u0000", 2);
        CHECKS.dueFault("a \u0008", 2);
        CHECKS.dueFault("a \u000e", 2);
        CHECKS.dueTokens("a\t\u000b\u000c\r\n b", "{ 0:a 0:b }");
    }
}
