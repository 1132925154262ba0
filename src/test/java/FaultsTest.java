/** Promise 4: read and its faults; LEXEMES, LAYOUT, GRAMMAR, names and limits (types are in TypesTest). */
public final class FaultsTest {
    public static void main(String[] args) {
        lexemes();
        grammar();
        types();
        layout();
        columns();
        depths();
        operands();
        toldTwice();
        meaningNothing();
        numbersOfNames();
        order();
        limits();
        again();
        House.end();
    }

    private static String times(int n, String what) {
        return what.repeat(n);
    }

    private static void lexemes() {
        House.fault("main = 1 # 2", 1, 1);
        House.fault("main = 1 & 2", 1, 1);
        House.fault("main\t= 1", 1, 1);
        House.fault("main = 1\r\n", 1, 1);
        House.fault("main = 1\n\n  'x", 1, 3);
        House.fault("main = abcdefghijklm", 1, 1);
        House.fault("main = abcdefghijkl", 5, 1);
        House.fault("main = Abcdefghijklm", 1, 1);
        House.fault("main = 2147483648", 1, 1);
        House.fault("main = 00000000001", 1, 1);
        House.fault("main = 12345678901", 1, 1);
        House.shows("main = 2147483647", "2147483647");
        House.shows("main = 0000000012", "12");
        House.shows("main = x--y\nx = 3", "3");
        House.shows("main = 5-->2", "5");
        House.shows("main=7-3", "4");
        House.shows("-- nothing\nmain = 7 -- all ( of # it\n--", "7");
        House.shows("main = x'Y1 + let' \nx'Y1 = 2\nlet' = 3", "5");
        House.due("==>", "LEXEMES", House.of("main = 3==3||4/=4--").it.count(0), 9);
        House.fault("main = 12ab", 5, 1);
        // A fault at an earlier token comes first.
        House.fault("main = ) #", 2, 1);
        House.fault("main = (\n#", 1, 2);
    }

    private static void grammar() {
        House.fault("", 5, 1);
        House.fault("main =", 2, 1);
        House.fault("main =\n\n", 2, 3);
        House.fault("main", 2, 1);
        House.fault("main = (1", 2, 1);
        House.fault("main = 1 + if True then 1 else 2", 2, 1);
        House.fault("main = main \\x -> x", 2, 1);
        House.fault("main = 1 : let x = 2 in x", 2, 1);
        House.fault("main = 1 < 2 < 3", 2, 1);
        House.fault("main = 1 == 2 /= 3", 2, 1);
        House.fine("main = (1 < 2) : (True && 1 < 2) : []");
        House.fault("main = [1,]", 2, 1);
        House.fault("main = (1,2,3)", 2, 1);
        House.fault("main = ()", 2, 1);
        House.fault("main = (1;2)", 2, 1);
        House.fault("main = 1, 2", 2, 1);
        House.fault("main = 1 then 2", 2, 1);
        House.fault("main = (1]", 2, 1);
        House.fault("main = 1)", 2, 1);
        House.fault("main = - 1", 2, 1);
        House.fault("main = 1 -> 2", 2, 1);
        House.fault("main = \\ -> 1", 2, 1);
        House.fault("main = \\_ -> 1", 2, 1);
        House.fault("f _ = 1", 2, 1);
        House.fault("1 = 2", 2, 1);
        House.fault("main = _", 2, 1);
        House.fault("main = if True then 1", 2, 1);
        House.fault("main = if True else 1", 2, 1);
        House.fault("main = case 1 of (x) -> 1", 2, 1);
        House.fault("main = case 1 of x : y : z -> 1", 2, 1);
        House.fault("main = case 1 of [x] -> 1", 2, 1);
        House.fault("main = case 1 of x = 1", 2, 1);
        House.fault("main = case 1 of 1 : x -> 1", 2, 1);
        House.fault("main = let 1 = 2 in 3", 2, 1);
        House.fault("main = let data X = Y in 3", 2, 1);
        House.shows("main = [case 1 of 1 -> 2, 3]", "[2,3]");
        House.shows("; main = 1 ;; x = 2;", "1");
        House.shows("f = \\x y -> y\nmain = f 1 2", "2");
    }

    private static void types() {
        House.fault("data = X", 2, 1);
        House.fault("data x = X", 2, 1);
        House.fault("data X = x", 2, 1);
        House.fault("data X", 2, 1);
        House.fault("data X X = Y", 2, 1);
        House.fault("data X = Y |", 2, 1);
        House.fault("data X = Y -> Y", 2, 1);
        House.fault("data X = Y (Int,Int,Int)", 2, 1);
        House.fault("data X = Y ()", 2, 1);
        House.fault("data X = Y []", 2, 1);
        House.fault("data X a = Y (a Int)", 2, 1);
        House.fault("data X = Y (Int ->)", 2, 1);
        House.fine("data X a b = Y | Z Int a (X a b) (Int -> a) (a, b) ((Int -> Int) -> [X a a])\nmain = 1");
    }

    private static void layout() {
        // The text's end behind of and let.
        House.fault("main = case 1 of", 2, 1);
        House.fault("main = let\n\n", 2, 3);
        // A BLOCK without an ITEM that isn't empty: at what ends it.
        House.fault("main = let in 1", 2, 1);
        House.fault("main = let ; ; \n in 1", 2, 2);
        House.fault("main = (case 1 of ;\n )", 2, 2);
        House.fine("main = case 1 of ; 1 -> 2 ;; ; x -> 3");
        // What ends an ITEM or a BLOCK with something OPEN in it.
        House.fault("main = if True then 1\nx = 2", 2, 2);
        House.fault("main = (1 +\n2)", 2, 2);
        House.fault("main = let x = 1\nin x", 2, 2);
        House.fault("main = let x = (1\n           y = 2 in x", 2, 2);
        House.fault("main = let x = case 1 of\n                 1 -> (2\n           y = 1 in x", 2, 3);
        House.fault("main = let x = case 1 of\n                 1 -> (2\n           y\n             = 1 in x", 2, 3);
        House.fault("main = let x = 1; y = (2; z = 3 in x", 2, 1);
        House.fault("main = let x = 1", 2, 1);
        House.fault("main = let x = 1\n       y = 2", 2, 2);
        // Closers and , end BLOCKS.
        House.shows("main = (let x = 1 in case x of 1 -> let y = 2 in y, 3)", "(2,3)");
        House.shows("main = if case 1 of 1 -> True then case 2 of 2 -> 3 else 4", "3");
        House.shows("main = case case 1 of 1 -> 2 of 2 -> 3", "3");
        House.shows("main = let x = let y = 1 in y in x", "1");
        House.fault("main = (1 of 2)", 2, 1);
        House.fault("main = (if True , 1)", 2, 1);
        // A column between goes on with the ITEM; that of the BLOCK begins another one; a smaller one ends it.
        House.shows("main = let x = 1\n             + 2\n           y = 3\n       in x * y", "9");
        House.shows("main = case 3 of\n  1 -> 2\n  x -> case x of\n    4 -> 5\n    y -> y\n      + 1\n  _ -> 7", "4");
        House.shows("main =\n 1\n +\n  2\nx = 3", "3");
        House.shows("  main = x\n  x = 3", "3");
        House.shows("main = case 1 of 1 -> 2\n                 x -> 3", "2");
    }

    private static void columns() {
        House.fault("main = case 1 of\n1 -> 2", 3, 2);
        House.fault("main = let\nx = 1\nin x", 3, 2);
        House.fault("main = let x = case 1 of\n           1 -> 2\n       in x", 3, 2);
        House.fine("main = let x = case 1 of\n            1 -> 2\n       in x");
        House.fault(" main = 1\nx = 2", 3, 2);
        House.fault(" main = 1;\nx = 2", 3, 2);
        // Of one token the least.
        House.fault(" main = 1\n) x", 2, 2);
        House.fault("main = case 1 of\n= 2", 2, 2);
        House.fault("main = case 1 of\n# 2", 1, 2);
        House.fault("main = let\nin 2", 2, 2);
        String deep = times(39, "(");
        House.fault("   main = " + deep + "\n  (1", 3, 2);
        House.fault("   main = (" + deep + "\n  (1", 3, 2);
    }

    private static void depths() {
        House.shows("main = " + times(39, "(") + "1" + times(39, ")"), "1");
        House.fault("main = " + times(40, "(") + "\n 1" + times(40, ")"), 8, 2);
        House.fault("main = " + times(40, "(") + "\n )", 2, 2);
        // 39 are not too deep, but the type is too big, which is told at the NAME.
        House.fault("main = 1\nf = " + times(39, "\\x->") + "\n 1", 8, 2);
        House.fault("main = 1\nf = " + times(40, "\\x->") + "\n 1", 8, 3);
        House.fault("main = " + times(39, "let x = 1 in ") + "(\n 1)", 8, 2);
        House.shows("main = " + times(39, "let x = 1 in ") + "\n x", "1");
        House.fault("main = " + times(39, "if True then 1 else ") + "(\n 1)", 8, 2);
        House.fault("main = " + times(39, "case 1 of _ -> ") + "(1)", 8, 1);
        House.fault("main = " + times(40, "[") + "\n 1", 8, 2);
        House.fault("main = " + times(40, "let x = ") + "1", 8, 1);
        House.fault("main =\n " + times(39, "let x = 1 in ") + "if True then 1 else 2", 8, 2);
        House.fault("main =\n " + times(39, "let x = 1 in ") + "case 1 of _ -> 2", 8, 2);
        everyPlace();
        House.fine("data T = C " + times(40, "(") + "Int" + times(40, ")") + "\nmain = 1");
        House.fault("data T = C (Int, " + times(40, "(") + "\n Int", 8, 2);
        House.fault("data T a = C (T " + times(40, "(") + "\n Int", 8, 2);
        House.fault("data T = C " + times(41, "(") + "\n Int", 8, 2);
        House.fault("data T = C " + times(41, "[") + "\n Int", 8, 2);
        House.fault("data T = C (" + times(40, "Int -> ") + "\n Int)\nmain = 1", 8, 2);
    }

    /** Each E of an E is one deeper: with 38 brackets around the whole one the E is the 39th, what it has the 40th. */
    private static void everyPlace() {
        String[] wholes = {"(@)", "(@, 1)", "(1, @)", "[@]", "[1, @, 1]", "[1, 1, @]", "\\x -> @", "let x = @ in 1",
            "let x = 1; y = @ in 1", "let x = 1 in @", "if @ == 1 then 1 else 1", "if True then @ else 1",
            "if True then 1 else @", "case @ of _ -> 1", "case 1 of _ -> @", "case 1 of 2 -> 1; _ -> @", "say (@) 1",
            "1 + (@)", "(@) * 2"};
        for (String whole : wholes) {
            String around = "f = " + times(38, "(") + whole + times(38, ")") + "\nmain = 1";
            House.fine(around.replace("@", "1"));
            House.fault(around.replace("@", "(1)"), 8, 1);
        }
    }

    private static void operands() {
        String[] signs = {"+", "*", "-", "/", "%", ":", "&&", "||"};
        for (String sign : signs) {
            String one = sign.equals("&&") || sign.equals("||") ? "True" : "1";
            String last = sign.equals(":") ? "[]" : one;
            House.fine("main = " + times(19, one + sign) + last);
            House.fault("main = " + times(20, one + sign) + "\n " + last, 8, 2);
            House.fault("main = " + times(20, one + sign) + "\n if", 2, 2);
        }
        House.fault("main = " + times(10, "1+1-") + "\n 1", 8, 2);
        // Each SUM counts its own operands.
        House.fine("main = " + times(19, "1*") + "1 + " + times(19, "1*") + "1");
        House.fine("main = (" + times(19, "1+") + "1) < " + times(19, "1+") + "1");
    }

    private static void toldTwice() {
        House.fault("main = 1\nmain = 2", 4, 2);
        House.fault("say = 1\nmain = 2", 4, 1);
        House.shows("main = let say = 1 in say", "1");
        House.shows("f say = say\nmain = f 2", "2");
        House.fault("f x\n x = 1\nmain = 1", 4, 2);
        House.fault("main = \\x y\n x -> x", 4, 2);
        House.fault("data A = B\ndata A = C\nmain = 1", 4, 2);
        House.fault("data Int = X\nmain = 1", 4, 1);
        House.fault("data Bool = X\nmain = 1", 4, 1);
        House.fault("data A = True\nmain = 1", 4, 1);
        House.fault("data A = B | C\n | B\nmain = 1", 4, 2);
        House.fault("data A = B\ndata C = B\nmain = 1", 4, 2);
        House.fault("data A a b\n a = B\nmain = 1", 4, 2);
        House.fine("data Int2 = Int | Bool | Int2\nmain = 1");
        House.fault("main = case (1,2) of\n (x,x) -> 1", 4, 2);
        House.fine("main = case (1,2) of (_,_) -> 1");
        House.fault("main = let x = 1\n           x = 2 in x", 4, 2);
        House.shows("main = let x = 1 in let x = 2 in x", "2");
        House.shows("x = 1\nmain = (\\x -> case x of x -> x + 1) 5", "6");
        House.shows("f f = f\nmain = f 4", "4");
    }

    private static void meaningNothing() {
        House.fault("main =\n x", 5, 2);
        House.fault("main =\n X", 5, 2);
        House.fault("main = case 1 of\n X -> 1", 5, 2);
        House.fault("data A = B\n c\nmain = 1", 5, 2);
        House.fault("data A = B\n C\nmain = 1", 5, 2);
        House.fault("data A a = A a\nf = A\nmain = B", 5, 3);
        House.fault("x = 1\n", 5, 2);
        House.fault("x = let main = 1 in main", 5, 1);
        House.fault("main = (\\x -> x) 1 +\n x", 5, 2);
        House.fault("main = (let x = 1 in x) +\n x", 5, 2);
        House.fault("main = (case 1 of x -> x) +\n x", 5, 2);
        House.fault("f x = 1\nmain = x", 5, 2);
        House.fine("data A = B C\ndata C = D A | E\nmain = 1");
        House.fault("main = int\nint = Int", 5, 2);
    }

    private static void numbersOfNames() {
        House.fault("main = case True of\n True x -> 1", 6, 2);
        House.fault("data A = B Int\nmain = case B 1 of\n B -> 1", 6, 3);
        House.fault("data A = B Int\nmain = case B 1 of\n B _ _ -> 1", 6, 3);
        House.fine("data A = B Int\nmain = case B 1 of B _ -> 1");
        House.fault("data A a = B\n A\nmain = 1", 6, 2);
        House.fault("data A = B (\n Int Int)\nmain = 1", 6, 2);
        House.fault("data A a = B (\n A a a)\nmain = 1", 6, 2);
        House.fine("data A a = B (A a)\nmain = 1");
        House.fine("data A a = B (A a -> A a) (A a, A Int) [A [a] -> (A a -> a)]\nmain = 1");
    }

    private static void order() {
        // The text comes before names, and of names the first token.
        House.fault("main = x\n)", 2, 2);
        House.fault("main = q\nmain = 1", 5, 1);
        House.fault("main = 1\nmain = q", 4, 2);
        House.fault("x = y\nz = 1", 5, 1);
        House.fault("x = 1\ndata A = B B", 5, 2);
        House.fault("data A = B c\nmain = 1\nmain = 2", 5, 1);
        House.fault("data A a = B A\ndata A = C\nmain = q", 6, 1);
        House.fault("f x = q\n\ng x x = 1\nmain = 1", 5, 1);
        House.fault("f x x = q\nmain = 1", 4, 1);
        // Names come before limits, limits before types.
        House.fault("main = q 1 1 1 1 1 1 1 1 1 1 1 1 1", 5, 1);
        House.fault("main = 1 1 1 1 1 1 1 1 1 1 1 1 1 1", 8, 0);
        House.fault("main = 1 1 1 1 1 1 1 1 1 1 1 1 1", 7, 1);
    }

    private static void limits() {
        House.fine("main=1" + times(1497, ";"));
        House.fault("main=1" + times(1498, ";"), 8, 0);
        House.fine(definitions(59) + "main=1");
        House.fault(definitions(60) + "main=1", 8, 0);
        // 8 PARAMETERS and a name, 33 times, are 297.
        House.fine(wide(33) + "z a=1\nmain=1");
        House.fault(wide(33) + "z a b=1\nmain=1", 8, 0);
        House.fine(wide(33) + "main=case 1 of a->case a of b->case b of _->1");
        House.fault(wide(33) + "main=case 1 of a->case a of b->let c=1 in c", 8, 0);
        House.fine(wide(33) + "main=(\\a b->1) 1 2");
        House.fault(wide(33) + "main=(\\a b c->1) 1 2 3", 8, 0);
        House.fine(datas(30) + "main=1");
        House.fault(datas(31) + "main=1", 8, 0);
        House.fine(constructors(60) + "main=1");
        House.fault(constructors(61) + "main=1", 8, 0);
        House.fine("data A = B" + times(6, " Int") + "\nmain=1");
        House.fault("data A = B" + times(7, " Int") + "\nmain=1", 8, 0);
        // [ and Int: two each; (Int,Int): three; Int -> Int: three.
        House.fine("data A = B " + times(39, "[") + "Int" + times(39, "]") + "\nmain=1");
        House.fault("data A = B " + times(40, "[") + "Int" + times(40, "]") + "\nmain=1", 8, 0);
        House.fine("data A a = B (" + times(18, "a -> ") + "a) (a,a)\nmain=1");
        House.fault("data A a = B (" + times(18, "a -> ") + "a) (a,a) a\nmain=1", 8, 0);
        House.fine("data A a = B | C (A (A a))" + times(3, " Int") + "\nmain=1");
        House.fine("f a b c d e f g h = 1\nmain=1");
        House.fault("f a b c d e f g h i = 1\nmain=1", 8, 0);
        House.fine("f = \\a b c d e f g h -> 1\nmain=1");
        House.fault("f = \\a b c d e f g h i -> 1\nmain=1", 8, 0);
        House.fine("f x = x" + times(12, " 1") + "\nmain=1");
        House.fault("f x = x" + times(13, " 1") + "\nmain=1", 8, 0);
        House.fine("main=[1" + times(11, ",1") + "]");
        House.fault("main=[1" + times(12, ",1") + "]", 8, 0);
        House.fine("data A a b c d e f g h = B\nmain=1");
        House.fault("data A a b c d e f g h i = B\nmain=1", 8, 0);
    }

    private static String definitions(int n) {
        StringBuilder text = new StringBuilder();
        for (int k = 0; k < n; k++) {
            text.append("d").append(k).append("=1\n");
        }
        return text.toString();
    }

    private static String wide(int n) {
        StringBuilder text = new StringBuilder();
        for (int k = 0; k < n; k++) {
            text.append("d").append(k).append(" a b c d e f g h=1\n");
        }
        return text.toString();
    }

    private static String datas(int n) {
        StringBuilder text = new StringBuilder();
        for (int k = 0; k < n; k++) {
            text.append("data D").append(k).append("=C").append(k).append("\n");
        }
        return text.toString();
    }

    private static String constructors(int n) {
        StringBuilder text = new StringBuilder("data D = C0");
        for (int k = 1; k < n; k++) {
            text.append("|C").append(k);
        }
        return text.append("\n").toString();
    }

    private static void again() {
        House house = House.ran("main = say 3 [1,2]");
        House.due("again", "read", house.tape("main = )").it.read(), 2 + 16);
        for (int what = 0; what <= 12; what++) {
            House.due("again", "count(" + what + ")", house.it.count(what), 0);
        }
        House.due("again", "shown", house.it.shown(0), -1);
        House.due("again", "said", house.it.said(0), 0);
        House.due("again", "global", house.it.global(0, 0), -1);
        House.due("again", "sign", house.it.sign(0, 0), -1);
        House.due("again", "group", house.it.group(0), -1);
        House.due("again", "read", house.tape("x = 1\nmain = x").it.read(), 0);
        House.due("again", "count(1)", house.it.count(1), 2);
        House.due("again", "count(5)", house.it.count(5), 0);
        House.due("again", "global", house.it.global(0, 0), -1);
        House.due("again", "sign(0)", house.sign(0), "x :: Int");
        House.due("again", "back", house.it.back(1), -1);
    }
}
