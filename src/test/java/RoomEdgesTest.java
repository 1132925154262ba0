/** The edges of CELLS and of what WAITS: 4,000 and 1,000 of them, one less and one more. */
public final class RoomEdgesTest {
    /** Cells of the list that each of these runs holds. */
    private static final int LIST = 3 * 1320;

    public static void main(String[] args) {
        constructors();
        functions();
        thunks();
        thunksOfDefinitions();
        lets();
        functionsWithArguments();
        lastArguments();
        whatIsHeld();
        behindAnother();
        roomAtItsEnd();
        programsValues();
        deepOfEach();
        deepOfLogic();
        deepOfThunks();
        deepOfShown();
        listTakesItsPlace();
        roomAheadOfDeep();
        countsOfCells();
        countsOfWaits();
        argumentsThatWent();
        builtByAndBy();
        manyVariablesWait();
        manyVariablesFree();
        freeOfMostNames();
        freeOfCases();
        House.end();
    }

    /** A VALUE of so many CELLS, 2 at least. */
    private static String fill(int cells) {
        if (cells == 3) {
            return "(1, 1)";
        }
        return cells == 2 ? "K 1" : "K (" + fill(cells - 2) + ")";
    }

    /** How a run ends that makes something while it holds so many CELLS. */
    private static int endOf(String head, String made, int held) {
        return House.ran(holding(head, made, held)).it.count(5);
    }

    /** Its text. */
    private static String holding(String head, String made, int held) {
        return "data K a = K a\n" + head + "rep n xs = if n == 0 then xs else rep (n - 1) (0 : xs)\n"
                + "keep xs k = case " + made + " of _ -> case xs of x : _ -> case k of _ -> x\n"
                + "go xs = case xs of _ : _ -> keep xs (" + fill(held - LIST) + ")\n"
                + "main = go (rep 1320 [])\n";
    }

    /** "more than 4,000, it ENDS as ROOM": what is made has so many CELLS. */
    private static void cells(String head, String made, int cells) {
        House.due(made, "ends with 3,999", endOf(head, made, 3999 - cells), 2);
        House.due(made, "ends with 4,000", endOf(head, made, 4000 - cells), 2);
        House.due(made, "ends with 4,001", endOf(head, made, 4001 - cells), 6);
    }

    /** "a constructor with fields 1 and as many"; "constructors without fields none". */
    private static void constructors() {
        String data = "data P = P0 | P1 Int | P2 Int Int | P6 Int Int Int Int Int Int\n";
        cells(data, "P1 1", 2);
        cells(data, "P2 1 2", 3);
        cells(data, "P6 1 2 3 4 5 6", 7);
        cells(data, "(1, 2)", 3);
        cells(data, "1 : []", 3);
        cells(data, "1 : 2 : []", 6);
        cells(data, "[1]", 3);
        cells(data, "[1, 2]", 6);
        cells(data, "[1, 2, 3, 4, 5, 6, 7, 8, 9, 10, 11, 12]", 36);
        cells(data, "[P0, P0]", 6);
        cells(data, "(P1 1, [P2 1 2])", 3 + 2 + 3 + 3);
        cells(data, "[[]]", 3);
    }

    /** "a FUNCTION of \ or of a let 1 and what stands FREE in it". */
    private static void functions() {
        cells("", "[\\a -> a]", 3 + 1);
        cells("", "[\\a -> xs]", 3 + 2);
        cells("", "case [\\a -> a] of f : _ -> f 5", 3 + 1);
        cells("", "case [\\a -> xs] of f : _ -> f 5", 3 + 2);
        cells("", "[\\a -> (xs, (k, xs))]", 3 + 3);
        cells("", "(\\a -> xs, \\b -> k)", 3 + 2 + 2);
        cells("", "[\\a -> rep]", 3 + 1);
        cells("", "let f a = a in [f, f]", 1 + 6);
        cells("", "let f a = xs in [f, f]", 2 + 6);
        // Its own NAME, too, if it stands there.
        cells("", "let f a = f a in [f, f]", 2 + 6);
        cells("", "let f a = g a; g a = f a in [f, g]", 2 + 2 + 6);
    }

    /** "a THUNK 2 and what stands FREE in it". */
    private static void thunks() {
        cells("", "[1 + 1]", 3 + 2);
        cells("", "(rep 1 xs, 1)", 3 + 3);
        cells("", "(rep 1 xs, (k, case xs of _ -> k))", 3 + 3 + 3 + 4);
        cells("i a = 1\n", "i (1 + 1)", 2);
        cells("i a = 1\n", "i (rep 1 xs)", 3);
        cells("i a b = 1\n", "i (1 + 1) (2 + 2)", 4);
        cells("i a b = 1\n", "i (1 + 1, [2 + 2]) 5", 3 + 2 + 3 + 2);
        // FREE in a let, a case, a \\ and a list is what is told outside of it, and that once.
        cells("", "[let a = 1 + 1 in a]", 3 + 2);
        cells("", "[let a = 1 in (xs, a)]", 3 + 3);
        cells("", "[let a = k in (a, xs)]", 3 + 4);
        cells("", "[let a b = (b, k); c = xs in (a 1, c)]", 3 + 4);
        cells("", "[case xs of a : b -> (a, b)]", 3 + 3);
        cells("", "[case 1 of a -> (a, k)]", 3 + 3);
        cells("", "[case k of a -> (a, k)]", 3 + 3);
        cells("", "[(\\a -> (a, xs)) 1]", 3 + 3);
        cells("", "[(\\a b -> k) 1 xs]", 3 + 4);
        cells("", "[if True then xs else []]", 3 + 3);
        cells("", "[case xs of [] -> 1; _ -> case k of _ -> 2]", 3 + 4);
        cells("", "[True && (case xs of _ -> case k of _ -> True)]", 3 + 4);
        cells("", "[rep 1 (rep 2 (rep 3 xs))]", 3 + 3);
        // A NUMBER and a variable are that.
        cells("i a b c = 1\n", "i xs 5 (1 + 1)", 2);
        cells("x = 1 + 1\ni a b c = 1\n", "i x rep (1 + 1)", 2);
    }

    /** The E of a let's DEFINITION that is a variable alone is a THUNK. */
    private static void thunksOfDefinitions() {
        cells("x = 1 + 1\n", "let a = x in [a]", 2 + 3);
        cells("", "let a = xs in [a]", 3 + 3);
        cells("", "let a = b; b = a in [a]", 3 + 3 + 3);
        cells("x = 1 + 1\n", "let a = x in 1", 2);
        cells("", "let a = xs in 1", 3);
        cells("", "let a = xs; b = a; c = 5; d = c in 1", 3 + 3 + 3);
        cells("", "let a = 1; b = True; c = [] in [a, 1]", 6);
    }

    /** "let: its THINGS, all at once". */
    private static void lets() {
        cells("", "let a = 1 + 1 in 1", 2);
        cells("", "let a = 1 + 1; b = 2 + 2; c = 3 + 3 in 1", 6);
        cells("", "let a = [1]; b = \\x -> a; c = [a] in 1", 3 + 2 + 3);
        cells("", "let a = rep 1 xs; b x = a in 1", 3 + 2);
        // What is not THERE any more makes room for what is made then.
        cells("", "let a = [1, 2, 3] in [1, 2]", 9);
        cells("", "let a = [1] in [1, 2]", 6);
    }

    /** "one with ARGUMENTS (of any) 2 and as many"; made when it gets them. */
    private static void functionsWithArguments() {
        String f = "data P = P Int Int Int\nf a b c d = 1\n";
        cells(f, "f 1", 3);
        cells(f, "f 1 2", 4);
        cells(f, "f 1 2 3", 5);
        cells(f, "f (1 + 1) 2", 2 + 4);
        cells(f, "P 1", 3);
        cells(f, "P 1 2", 4);
        cells(f, "say 1", 3);
        cells(f, "say (1 + 1)", 2 + 3);
        cells(f, "(\\a b -> a) 1", 1 + 3);
        cells(f, "(\\a b -> xs) 1", 2 + 3);
        // "a FUNCTION that gets them, its ARGUMENTS, too": the old one is THERE while the new one is made.
        cells(f, "(f 1) 2", 3 + 4);
        cells(f, "(f 1 2) 3", 4 + 5);
        cells(f, "((f 1) 2) 3", 4 + 5);
        cells(f, "(f 1) (2 + 2)", 3 + 2 + 4);
        cells(f, "(say 1)", 3);
    }

    /** "a constructor that gets its last one". */
    private static void lastArguments() {
        String p = "data P = P Int Int Int\np = P\n";
        cells(p, "p 1 2 3", 4);
        cells(p, "p 1 2 (3 + 3)", 2 + 4);
        cells(p, "(P 1) 2 3", 3 + 4);
        cells(p, "(P 1 2) 3", 4 + 4);
        cells(p, "(p 1) 2 3", 3 + 4);
        cells(p, "P 1 2 3", 4);
    }

    /** What WAITS is THERE: a CALL's ARGUMENTS, branches, operands, a THUNK that is HELD, say's second ARGUMENT. */
    private static void whatIsHeld() {
        cells("i a = 1\n", "i (1 + 1) + i (2 + 2)", 2);
        cells("", "case [1, 2] of x : y -> case [3] of _ -> y", 3 + 3);
        cells("", "case [1, 2] of x : y -> case [3] of _ -> x", 6);
        cells("", "(if True then [1] else [2])", 3);
        cells("i a = case [1] of _ -> a\n", "i (1 + 1)", 2 + 3);
        cells("i a = case [1] of _ -> 1\n", "i (1 + 1)", 3);
        cells("i a = case [1] of _ -> 1\n", "let t = i xs in t", 3 + 3);
        cells("", "say (case [1] of _ -> 1) [2, 3]", 6 + 2 + 3);
        cells("", "say 1 [2, 3]", 6);
    }

    /** What an object has read before does not count. */
    private static void behindAnother() {
        StringBuilder before = new StringBuilder("main=1\n");
        for (int k = 10; k < 28; k++) {
            before.append("d").append(k).append("=").append("[".repeat(38)).append("1").append("]".repeat(38)).append("\n");
        }
        String[] made = {"[1 + 1, 2]", "let a = 1 + 1; b = a in 1", "i (1 + 1) [2 + 2]", "let f a = (a, xs) in 1"};
        int[] cells = {6 + 2, 2 + 3, 2 + 3 + 2, 2};
        for (int k = 0; k < made.length; k++) {
            for (int all = 4000; all <= 4001; all++) {
                House house = new House().tape(before.toString());
                House.due("before", "read()", house.it.read(), 0);
                house.begin();
                house.tape(holding("i a b = 1\n", made[k], all - cells[k])).it.read();
                house.begin();
                for (int n = 0; n < 20 && house.it.count(5) == 1; n++) {
                    house.run(2000);
                }
                House.due(made[k], "behind another with " + all, house.it.count(5), all == 4000 ? 2 : 6);
            }
        }
    }

    /** A run that ENDS as ROOM: the STEP is counted, the THUNKS by which it ends are not. */
    private static void roomAtItsEnd() {
        // Each THUNK has 3 CELLS and holds the one ahead of it: 1,333 of them have 3,999.
        House house = House.ran("up n = up (n + 1)\nmain = up 0");
        House.due("room", "count(5)", house.it.count(5), 6);
        House.due("room", "count(7)", house.it.count(7), 1333);
        House.due("room", "count(8)", house.it.count(8), 0);
        House.due("room", "count(9)", house.it.count(9), 0);
        House.due("room", "count(10)", house.it.count(10), 0);
        // main, up 0, up; then a CALL and a variable each, the last CALL alone.
        House.due("room", "count(6)", house.it.count(6), 1 + 2 * 1334 + 1);
        House.due("room", "global(1, 0)", house.it.global(1, 0), 1);
        House said = House.ran("up n = up (n + 1)\nmain = [1, say 5 (up 0)]");
        House.due("said", "text", said.text(), "[1,");
        House.due("said", "said(0)", said.it.said(0), 5);
    }

    /** "and the PROGRAM's VALUES": what a DEFINITION of the PROGRAM has become goes on being THERE. */
    private static void programsValues() {
        String rep = "rep n xs = if n == 0 then xs else rep (n - 1) (0 : xs)\nlen xs = case xs of [] -> 0; _ : ys -> 1 + len ys\n";
        House kept = House.ran(rep + "a = rep 700 []\nb = rep 700 []\nmain = case a of _ : _ -> case b of _ : _ -> 1");
        House.due("kept", "count(5)", kept.it.count(5), 6);
        House let = House.ran(rep + "main = case rep 700 [] of _ : _ -> case rep 700 [] of _ : _ -> 1");
        House.due("let go", "count(5)", let.it.count(5), 2);
        House few = House.ran(rep + "a = rep 600 []\nb = rep 600 []\nmain = case a of _ : _ -> case b of _ : _ -> 1");
        House.due("few", "count(5)", few.it.count(5), 2);
    }

    private static final String SUMS = "acc n m = if n == 0 then m else acc (n - 1) (1 + m)\ni a = a\nj a = \\b -> b\nw = 5\nz = w\n";

    /** A run in which b things WAIT when x is asked for: two for each 1 + m, one for main, and one for a sum around. */
    private static House waiting(String x, int b) {
        String sum = b % 2 == 0 ? "1 + " : "";
        return House.ran(SUMS + "x = " + x + "\nmain = " + sum + "acc " + (b - 1) / 2 + " x");
    }

    /** "when more than 1,000 things would WAIT": beside x itself so many WAIT at once, at most, while x is worked out. */
    private static void waits(String x, int waits) {
        for (int all = 998; all <= 1002; all++) {
            House house = waiting(x, all - 1 - waits);
            House.due(x, "ends with " + all, house.it.count(5), all <= 1000 ? 2 : 7);
            // x is HELD if there is room for it; it is so ahead of that, too.
            int state = all <= 1000 ? 2 : all - 1 - waits > 1000 ? 0 : 1;
            House.due(x, "global(5, 0) with " + all, house.it.global(5, 0), state);
        }
    }

    /** "each CALL's ARGUMENTS together, the branches of an if, case, .., each operand, THUNK, say's ARGUMENT". */
    private static void deepOfEach() {
        waits("w", 0);
        waits("1 + 1", 1);
        waits("1 + 1 + 1", 2);
        waits("1 + (1 + 1)", 2);
        waits("(1 + 1) * (1 + 1)", 2);
        waits("if True then 1 else 2", 1);
        waits("if False then 1 + 1 else 2", 1);
        waits("if True then 1 + 1 else 2", 1);
        waits("if 1 < 2 then 1 else 2", 2);
        waits("case 1 of _ -> 1", 1);
        waits("case 1 + 1 of _ -> 1", 2);
        waits("i 1", 1);
        waits("i (1 + 1)", 2);
        waits("j 1 2", 1);
        waits("j 1 (1 + 1)", 2);
        waits("(i i) 1", 2);
        waits("(j 1) 2", 2);
        waits("say 1 2", 1);
        waits("say (1 + 1) 2", 3);
        waits("say 1 (1 + 1)", 2);
        waits("say 1 i 2", 2);
        waits("let y = 1 in y", 0);
        waits("let y = w in y", 1);
        waits("z", 1);
        waits("let y = 1 + 1 in y", 2);
    }

    private static void deepOfLogic() {
        waits("if True then 1 else 2", 1);
        waits("if True && True then 1 else 2", 2);
        waits("if False || True then 1 else 2", 2);
        waits("if False && True then 1 else 2", 2);
        waits("if (True && True) && True then 1 else 2", 3);
        // The right one is worked out when the left one WAITS no longer.
        waits("if True && (True && True) then 1 else 2", 2);
    }

    /** "a THUNK is HELD ahead of that". */
    private static void deepOfThunks() {
        House held = waiting("w", 1000);
        House.due("1000", "count(5)", held.it.count(5), 7);
        House.due("1000", "x", held.it.global(5, 0), 1);
        House fine = waiting("w", 999);
        House.due("999", "count(5)", fine.it.count(5), 2);
        House.due("999", "x", fine.it.global(5, 0), 2);
        House early = waiting("w", 1001);
        House.due("1001", "count(5)", early.it.count(5), 7);
        House.due("1001", "x", early.it.global(5, 0), 0);
        House.due("1001", "count(9)", early.it.count(9), 0);
        House.due("1001", "count(10)", early.it.count(10), 0);
    }

    /** "each constructor that is shown being one". */
    private static void deepOfShown() {
        for (int n = 999; n <= 1001; n++) {
            House house = House.ran("data S = Z | S S\nbuild n s = if n == 0 then s else build (n - 1) (S s)\nmain = build " + n + " Z");
            House.due("S", "ends with " + n, house.it.count(5), n <= 1000 ? 2 : 7);
            House.due("S", "count(11) with " + n, house.it.count(11), 1000);
        }
        // A constructor and a list: 2 n - 1 of them, as the last list is empty.
        for (int n = 499; n <= 502; n++) {
            House house = House.ran("data L = L [L]\nbuild n s = if n == 0 then s else build (n - 1) (L [s])\nmain = build "
                    + (n - 1) + " (L [])");
            House.due("L", "ends with " + (2 * n - 1), house.it.count(5), 2 * n - 1 <= 1000 ? 2 : 7);
        }
        // A constructor and a pair: 2 n.
        for (int n = 499; n <= 501; n++) {
            House house = House.ran("data P = Q | P (Int, P)\nbuild n s = if n == 0 then s else build (n - 1) (P (1, s))\n"
                    + "main = build " + n + " Q");
            House.due("P", "ends with " + 2 * n, house.it.count(5), 2 * n <= 1000 ? 2 : 7);
        }
    }

    /** "a list's rest takes its place". */
    private static void listTakesItsPlace() {
        for (int many : new int[] {999, 1000, 1001, 1200}) {
            House house = House.begun("up n = if n == " + many + " then [] else n : up (n + 1)\nmain = up 0");
            int most = 0;
            for (int n = 0; n < 100 && house.it.count(5) == 1; n++) {
                house.run(499);
                most = Math.max(most, house.it.count(10));
            }
            House.due("list of " + many, "count(5)", house.it.count(5), 2);
            House.due("list of " + many, "few WAIT", most > 0 && most < 8 ? 1 : 0, 1);
        }
        House shown = House.ran("main = [[1, 2], [3], []]");
        House.due("lists", "text", shown.text(), "[[1,2],[3],[]]");
    }

    /** "as DEEP (asked behind that)". */
    private static void roomAheadOfDeep() {
        String text = SUMS + "rep n xs = if n == 0 then xs else rep (n - 1) (0 : xs)\nbig = rep 833 []\n"
                + "f a b c = a\nx = #\nmain = case big of _ : _ -> acc 499 x";
        // 2,499 CELLS of big and 1,497 of what is HELD: 4 can be made. 999 things WAIT, x is one more.
        House.due("4 CELLS", "count(5)", House.ran(text.replace("#", "f (1 + 1) (1 + 1) 1")).it.count(5), 7);
        House.due("6 CELLS", "count(5)", House.ran(text.replace("#", "f (1 + 1) (1 + 1) (1 + 1)")).it.count(5), 6);
        House.due("no CELLS", "count(5)", House.ran(text.replace("#", "f 1 1 1")).it.count(5), 7);
        House.due("no CALL", "count(5)", House.ran(text.replace("#", "w")).it.count(5), 2);
    }

    /** What was given to a FUNCTION is THERE no longer, if what came is not. */
    private static void argumentsThatWent() {
        there("f a b = a\nmain = case f [1, 2] of _ -> 5 + 6", 3, 6, 3);
        there("f a b = a\nmain = case f [1, 2] of _ -> 5 + 6", 4, 0, 1);
        there("data P a = P a a\np = P\nmain = case p [1] [2, 3] of _ -> 5 + 6", 3, 9, 3);
        there("data P a = P a a\np = P\nmain = case p [1] [2, 3] of _ -> 5 + 6", 4, 0, 1);
        there("data P a = P a a\np = P\nmain = case p [1] [2, 3] of P a b -> case 5 of _ -> b", 4, 6, 1);
        there("main = case \\x -> x of _ -> 5 + 6", 3, 0, 1);
        there("main = case \\x -> x of f -> (f 5, 6)", 3, 1, 1);
        there("f a = 5 + 6\nmain = f [1, 2]", 3, 0, 1);
        there("f a = 5 + 6\nmain = f [1, 2]", 2, 6, 2);
        there("f a = \\b -> 5 + 6\nmain = f [1] [2, 3]", 3, 6, 2);
        there("f a = \\b -> 5 + 6\nmain = f [1] [2, 3]", 4, 0, 1);
        there("main = case say 1 [1, 2] of _ -> 5 + 6", 5, 6, 2);
        there("main = case say 1 [1, 2] of _ -> 5 + 6", 6, 0, 1);
        there("main = say 1 ((\\a -> 5 + 6) [1])", 4, 2, 1);
        there("main = say 1 ((\\a -> 5 + 6) [1])", 5, 2, 2);
        there("main = say 1 ((\\a -> 5 + 6) [1])", 6, 5, 3);
        there("main = say 1 ((\\a -> 5 + 6) [1])", 7, 2, 2);
    }

    /** A constructor that got its last ARGUMENT by and by is as good as one that is written so. */
    private static void builtByAndBy() {
        String p = "data P a = P a a a\np = P 1\n";
        House.shows(p + "main = case p 2 3 of q -> case [4, 5] of r -> (q, r)", "((P 1 2 3),[4,5])");
        House.shows(p + "main = case p 2 of q -> case (q 3, q 4) of (r, s) -> [r, s, r]", "[(P 1 2 3),(P 1 2 4),(P 1 2 3)]");
        House.shows("f a b c = [a, b, c]\ng = f 1\nmain = case g 2 of q -> case [4, 5] of r -> [q 3, r, q 6]",
                "[[1,2,3],[4,5],[1,2,6]]");
        House.shows("main = case \\a b -> (a, b) of f -> case f 1 of g -> case [4] of h -> (g h, f 2 h)", "((1,[4]),(2,[4]))");
    }

    /** Far more variables than CELLS may WAIT, as numbers have none. */
    private static void manyVariablesWait() {
        House house = House.ran("f a b c d e g h n = \\i j k l -> if n == 0 then 0 else f a b c d e g h (n - 1) i j k l + "
                + "(a + b + c + d + e + g + h + i + j + k + l)\nmain = f 1 2 3 4 5 6 7 900 8 9 10 11");
        House.due("900", "count(5)", house.it.count(5), 2);
        House.due("900", "text", house.text(), "" + 900 * 66);
    }

    /** Many variables stand FREE in many Es: 18 rows of 8, and sums of those of the first 16. */
    private static void manyVariablesFree() {
        StringBuilder text = new StringBuilder("main=");
        StringBuilder sum = new StringBuilder();
        StringBuilder arguments = new StringBuilder();
        for (int row = 10; row < 28; row++) {
            String names = "a# b# c# d# e# f# g# h#".replace("#", "" + row);
            text.append("(\\").append(names).append("->");
            sum.append(row > 25 ? "" : (row == 10 ? "(" : "+(") + names.replace(" ", "+") + ")");
            arguments.append(")1 2 3 4 5 6 7 8");
        }
        text.append("(" + sum + ")-(" + sum + ")+(" + sum + ")");
        House house = House.ran(text.append(arguments).toString());
        House.due("144 variables", "text", house.text(), "" + 16 * 36);
    }

    /** Each of 60 DEFINITIONS, 300 names in all: what stands FREE in their THUNKS. */
    private static void freeOfMostNames() {
        StringBuilder text = new StringBuilder("main=d# 1 2 3\n");
        for (int k = 10; k < 69; k++) {
            text.append("d").append(k).append(" a b c=let t=a+b*c in[t]\n");
        }
        for (int k = 10; k < 69; k++) {
            House house = House.begun(text.toString().replace("#", "" + k));
            house.run(4);
            House.due("d" + k, "count(9)", house.it.count(9), 5);
            house.run(1);
            House.due("d" + k, "count(9) of the list", house.it.count(9), 5 + 3);
            house.run(2000);
            House.due("d" + k, "text", house.text(), "[7]");
        }
        // With PATTERNS, lets and \, whose own NAMES are not FREE in what is around: 49 DEFINITIONS of 6 names.
        StringBuilder other = new StringBuilder("main=d# 1 2\n");
        for (int k = 10; k < 59; k++) {
            other.append("d").append(k).append(" a b=[case a of t->let u=t in(\\v->v+u+b)5]\n");
        }
        for (int k = 10; k < 59; k++) {
            House house = House.begun(other.toString().replace("#", "" + k));
            house.run(4);
            House.due("d" + k, "count(9) of a case", house.it.count(9), 3 + 4);
            house.run(2000);
            House.due("d" + k, "text of a case", house.text(), "[8]");
        }
    }

    /** What stands FREE in one case is nothing to another. */
    private static void freeOfCases() {
        String f = "f a b = case 1 of 1 -> a; _ -> b\ng c = [case 1 of 1 -> c; _ -> 5]\nh d = [case 1 of _ -> 5]\n";
        there(f + "main = g 1", 4, 3 + 3, 1);
        there(f + "main = h 1", 4, 3 + 2, 1);
        there(f + "main = [f 1 2]", 0, 3 + 2, 0);
    }

    private static void there(String text, int steps, int cells, int waits) {
        House house = House.begun(text);
        house.it.run(steps);
        House.due(text, "count(9) behind " + steps, house.it.count(9), cells);
        House.due(text, "count(10) behind " + steps, house.it.count(10), waits);
    }

    /** "9 CELLS that are THERE (0 unless it goes on)". */
    private static void countsOfCells() {
        there("main = 1", 0, 0, 0);
        there("main = 1", 1, 0, 0);
        there("main = [1]", 0, 3, 0);
        there("main = [1]", 1, 3, 1);
        there("main = [1]", 2, 3, 1);
        there("main = [1]", 3, 0, 0);
        there("a = [1]\nb = (2, 3)\nmain = 1", 0, 6, 0);
        there("a = [1]\nb = (2, 3)\nmain = 1", 1, 0, 0);
        // FUNCTIONS of the PROGRAM have none, say and constructors neither; one of \ has 1, a THUNK of the PROGRAM none.
        there("f x = x\nmain = 1", 0, 0, 0);
        there("f = \\x -> x\nmain = 1", 0, 1, 0);
        there("f = \\x y -> x\ng x = \\y -> x\nmain = 1", 0, 1, 0);
        there("data P = P Int Int\nf = P\ng = say\nh = P 1\nmain = 1", 0, 0, 0);
        // A THUNK: 2 and what is FREE, while it is HELD, too; then what it is.
        there("main = let x = 1 + 1 in x + x", 2, 2, 1);
        there("main = let x = 1 + 1 in x + x", 4, 2, 3);
        there("main = let x = 1 + 1 in x + x", 6, 2, 4);
        there("main = let x = 1 + 1 in x + x", 7, 0, 2);
        there("main = let y = 5; x = y + 1 in x + x", 2, 3, 1);
        there("f y = let x = [y] in x\nmain = f (1 + 1)", 3, 2, 1);
        there("f y = let x = [y] in x\nmain = f (1 + 1)", 4, 2 + 3, 1);
        there("f y = let x = [y] in x\nmain = f (1 + 1)", 5, 2 + 3, 1);
        there("f y = let x = [y] in x\nmain = f (1 + 1)", 9, 3, 1);
    }

    /** "10 what WAITS (likewise)". */
    private static void countsOfWaits() {
        there("main = 1 + 2", 0, 0, 0);
        there("main = 1 + 2", 1, 0, 1);
        there("main = 1 + 2", 2, 0, 2);
        there("main = 1 + 2", 3, 0, 2);
        there("main = 1 + 2", 4, 0, 0);
        there("main = (1, (2, (3, 4)))", 1, 9, 1);
        there("main = (1, (2, (3, 4)))", 2, 9, 1);
        there("main = (1, (2, (3, 4)))", 3, 9, 2);
        there("main = (1, (2, (3, 4)))", 5, 9, 3);
        there("main = [1, 2, 3]", 1, 9, 1);
        there("main = [1, 2, 3]", 2, 9, 1);
        there("main = [1, 2, 3]", 3, 9, 1);
        there("main = [1, 2, 3]", 6, 9, 1);
        there("main = [1, 2, 3]", 7, 0, 0);
    }
}
