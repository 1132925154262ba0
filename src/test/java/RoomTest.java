/** Promise 5 of a run: the CELLS that are THERE and what WAITS; and the ends ROOM and DEEP. */
public final class RoomTest {
    public static void main(String[] args) {
        values();
        thunks();
        waits();
        functions();
        held();
        room();
        deep();
        House.end();
    }

    /** CELLS and what WAITS behind so many STEPS. */
    private static void there(String text, int steps, int cells, int waits) {
        House house = House.begun(text);
        house.it.run(steps);
        House.due(text, "count(5) behind " + steps, house.it.count(5), 1);
        House.due(text, "count(9) behind " + steps, house.it.count(9), cells);
        House.due(text, "count(10) behind " + steps, house.it.count(10), waits);
        House.due(text, "count(9) again", house.it.count(9), cells);
    }

    private static void values() {
        there("main = 7", 0, 0, 0);
        there("main = [1, 2, 3]", 0, 9, 0);
        there("main = [1, 2, 3]", 1, 9, 1);
        there("main = (1, 2)", 0, 3, 0);
        there("main = 1 : 2 : []", 0, 6, 0);
        there("data P = P Int Int Int | Q\nmain = P 1 2 3", 0, 4, 0);
        there("data P = P Int Int Int | Q\nmain = [Q]", 0, 3, 0);
        there("data P = P Int Int Int\np = P\nf x = x\nmain = 1", 0, 0, 0);
        there("f = \\x -> x\nmain = 1", 0, 1, 0);
        there("xs = 1 : xs\nmain = 1", 0, 3, 0);
        there("xs = 1 : ys\nys = 2 : xs\nmain = 1", 0, 6, 0);
        there("xs = [\\x -> x]\nmain = 1", 0, 4, 0);
        there("xs = [1 + 1, 2]\nmain = 1", 0, 8, 0);
        there("x = 1 + 1\nmain = (x, x)", 0, 3, 0);
    }

    private static void thunks() {
        String text = "main = let x = 1 + 2; y = x in y";
        there(text, 1, 0, 1);
        there(text, 2, 5, 1);
        there(text, 3, 5, 2);
        there(text, 4, 5, 3);
        there(text, 5, 5, 4);
        there(text, 6, 5, 4);
        // A THUNK that has its value is that.
        there("main = let x = 1 + 2 in [x, x]", 5, 6 + 2, 3);
        there("main = let x = 1 + 2 in [x, x]", 7, 6, 1);
        // What can't be reached any more is not THERE.
        there("main = let x = [1, 2]; y = 3 in [y + 1, y + 2]", 2, 0, 1);
        there("main = let x = [1, 2]; y = 3 in [y, 1]", 3, 6, 1);
    }

    private static void waits() {
        there("main = if 1 < 2 then 3 else 4", 2, 0, 2);
        there("main = if 1 < 2 then 3 else 4", 3, 0, 3);
        there("main = if 1 < 2 then 3 else 4", 4, 0, 3);
        there("main = if 1 < 2 then 3 else 4", 5, 0, 1);
        there("main = 1 + (2 + (3 + 4))", 6, 0, 4);
        there("main = (1 < 2 && 2 < 3) || 1 < 1", 4, 0, 4);
        there("main = case (1, 2) of (a, b) -> a + b", 3, 0, 1);
        there("main = case (1, [2]) of (a, b) -> b", 3, 3, 1);
        // The branches hold what stands FREE in them till one is chosen.
        there("f x y z = if x == 1 then y else z\nmain = f 1 [1] [2, 3]", 3, 9, 1);
        there("f x y z = if x == 1 then y else z\nmain = f 1 [1] [2, 3]", 5, 9, 3);
        there("f x y z = if x == 1 then y else z\nmain = f 1 [1] [2, 3]", 7, 3, 1);
        // ARGUMENTS of a CALL, and of say.
        there("f x = x\nmain = f [1]", 2, 3, 2);
        there("f x = x\nmain = f [1]", 3, 3, 1);
        there("main = say (1 + 2) [3]", 2, 5, 2);
        there("main = say (1 + 2) [3]", 3, 5, 2);
        there("main = say (1 + 2) [3]", 4, 5, 3);
        there("main = say (1 + 2) [3]", 7, 3, 1);
        // What is too much for a FUNCTION WAITS.
        there("f x = \\y -> y\nmain = f 1 [2]", 3, 3, 2);
        there("main = 1 : [2]", 1, 6, 1);
        // Fields that were not come to; the last one is, but the constructor is shown still.
        there("p x = (x, (x, x))\nmain = p (1 + 1)", 3, 2, 1);
        there("p x = (x, (x, x))\nmain = p (1 + 1)", 4, 2 + 6, 1);
        there("p x = (x, (x, x))\nmain = p 1", 5, 6, 1);
        there("p x = (x, (x, x))\nmain = p 1", 6, 6, 2);
        there("p x = (x, (x, x))\nmain = p 1", 7, 6, 2);
        // The rest of a list takes its place.
        there("ones = 1 : ones\nmain = ones", 500, 3, 1);
    }

    private static void functions() {
        there("f x y z = x\nmain = [f 1 2]", 0, 5, 0);
        there("f x y z = x\nmain = [f 1 2]", 4, 7, 1);
        there("main = let f x = f x in [f]", 2, 2, 1);
        there("main = let a = 1; f x = a + x in [f]", 2, 2, 1);
        there("main = let a = 1; f x = a + x in [f 1, 2]", 3, 2 + 6 + 3, 1);
        there("data P = P Int Int\nmain = (P 1, 2)", 0, 5, 0);
        there("data P = P Int Int\nmain = (P 1, 2)", 4, 3 + 3, 1);
        there("main = (say 1, 2)", 4, 6, 1);
        // One that gets more is a new one, with all that it has.
        there("f x y z = x\ng = f 1\nh = g 2\nmain = (h, g)", 6, 3 + 3 + 4, 1);
    }

    /** A THUNK that is HELD holds what stands FREE in it. */
    private static void held() {
        String text = "f xs = case xs of y : _ -> 1 + y\nmain = let xs = [1, 2, 3] in f xs + 1";
        there(text, 2, 9, 1);
        there(text, 3, 9, 2);
        there(text, 6, 9, 3);
        there(text, 7, 0, 2);
        there(text, 8, 0, 3);
        String holds = "f xs = case xs of y : _ -> 1 + y\nmain = let xs = [1, 2, 3]; z = f xs in z + 1";
        there(holds, 8, 9 + 3, 3);
        there(holds, 10, 9 + 3, 4);
        there(holds, 11, 0, 2);
    }

    private static void room() {
        String same = "same x = x : same x\nwalk xs = case xs of [] -> 0; _ : ys -> walk ys\n";
        // What is let go of needs no room.
        House free = House.begun(same + "main = walk (same 1)");
        for (int n = 0; n < 30; n++) {
            free.it.run(2000);
        }
        House.due("let go", "count(5)", free.it.count(5), 1);
        House.due("let go", "count(9) is small", free.it.count(9) < 10 ? 1 : 0, 1);
        // What is kept does; so do THUNKS that nobody asks for.
        House kept = House.ran(same + "xs = same 1\nmain = walk xs");
        House.due("kept", "count(5)", kept.it.count(5), 6);
        House.due("kept", "count(9)", kept.it.count(9), 0);
        House.due("unasked", "count(5)", House.ran("up n = up (n + 1)\nmain = up 0").it.count(5), 6);
        edges();
        // The THUNKS by which it ends as ROOM don't count.
        House counted = House.begun("up n = up (n + 1)\nmain = up 0");
        for (int n = 0; n < 3 && counted.it.count(5) == 1; n++) {
            counted.it.run(2000);
        }
        // Each THUNK has 3 CELLS and holds the one ahead of it: 1,333 of them have 3,999.
        House.due("counted", "count(7)", counted.it.count(7), 1333);
        House.due("counted", "count(5)", counted.it.count(5), 6);
    }

    /** A list of 1,331 numbers has 3,993 CELLS, so 7 can be made still, and 8 can't. */
    private static void edges() {
        edge("", "(1, (2 + 2, 3))", 8);
        edge("", "(1 + 1, 2 + 2)", 7);
        edge("", "[1, 2, 3]", 9);
        edge("", "[1, 2]", 6);
        edge("", "[1 + 1, 2]", 8);
        edge("", "1 : 2 : []", 6);
        edge("", "(\\a -> a, \\b -> b)", 5);
        edge("", "let a = 1 + 1; b = 2 + a in 1", 5);
        edge("", "let a = 1 + 1; b = 2 + a; c = a in 1", 8);
        edge("", "let a = 1 + 1; b = 2 + a; c = \\x -> x in 1", 6);
        edge("", "let a = 1 + 1; b = 2 + a; c = \\x -> a in 1", 7);
        edge("", "let a = 1 + 1; b = 2 + a; c x = a + b + x in 1", 8);
        edge("data P = P Int Int Int Int Int Int\n", "P 1 2 3 4 5 6", 7);
        edge("data P = P Int Int Int Int Int\n", "P 1 2 3 4 (1 + 1)", 8);
        edge("f a b c d = 1\n", "f (1 + 1) (2 + 2) (3 + 3) 4", 6);
        edge("f a b c d = 1\n", "f (1 + 1) (2 + 2) (3 + 3) (4 + 4)", 8);
        // A FUNCTION with ARGUMENTS: 2 and as many, with those that are made for it.
        edge("f a b c d e g = 1\n", "f 1 2 3 4 5", 7);
        edge("f a b c d e g h = 1\n", "f 1 2 3 4 5 6", 8);
        edge("f a b c = 1\n", "f (1 + 1) 2", 2 + 4);
        edge("f a b c = 1\n", "f (1 + 1) (2 + 2)", 4 + 4);
        // The one that gets more is THERE still.
        edge("f a b c = 1\n", "(f 1) 2", 3 + 4);
        edge("f a b c d = 1\n", "((f 1) 2) 3", 4 + 5);
        // A constructor that gets its last one.
        edge("data P = P Int Int Int Int Int Int\np = P\n", "p 1 2 3 4 5 6", 7);
        edge("data P = P Int Int Int\np = P\n", "p 1 (2 + 2) 3", 6);
        edge("data P = P Int Int Int\np = P\n", "p 1 (2 + 2) (3 + 3)", 8);
        edge("data P = P Int Int Int\n", "(P 1) 2 3", 3 + 4);
        edge("data P = P Int Int Int\n", "(P 1 2) 3", 4 + 4);
    }

    /** What is made has so many CELLS, with what it needs for that. */
    private static void edge(String head, String made, int cells) {
        House.due(made, "ends", endOf(head, made), cells > 7 ? 6 : 2);
    }

    /** How a run ends that makes something while it holds a list of 3,993 CELLS. */
    private static int endOf(String head, String made) {
        return House.ran(head + "rep n xs = if n == 0 then xs else rep (n - 1) (0 : xs)\n"
                + "keep xs = case " + made + " of _ -> case xs of x : _ -> x\n"
                + "walk n xs = case n of 0 -> 0; _ -> case xs of _ : ys -> walk (n - 1) ys\n"
                + "force xs = case walk 1331 xs of 0 -> keep xs\n"
                + "main = force (rep 1331 [])\n").it.count(5);
    }

    private static void deep() {
        House.ends("f n = 1 + f n\nmain = f 0", 7, 3998);
        House nested = House.ran("data N = Z | S N\nnest n = S (nest n)\nmain = nest 0");
        House.due("nest", "count(5)", nested.it.count(5), 7);
        House.due("nest", "count(6)", nested.it.count(6), 3998);
        House.due("nest", "count(11)", nested.it.count(11), 1000);
        House.due("nest", "count(10)", nested.it.count(10), 0);
        // A THUNK is HELD ahead of that: 1 + .. WAITS twice for each of 499, and x is one too much.
        String sums = "acc n m = if n == 0 then m else acc (n - 1) (1 + m)\nx = 1 + 1\nmain = 1 + acc ";
        House held = House.ran(sums + "499 x");
        House.due("held", "count(5)", held.it.count(5), 7);
        House.due("held", "global(1, 0)", held.it.global(1, 0), 1);
        House early = House.ran(sums + "500 x");
        House.due("early", "count(5)", early.it.count(5), 7);
        House.due("early", "global(1, 0)", early.it.global(1, 0), 0);
        House.due("fits", "text", House.ran(sums + "498 x").text(), "501");
    }
}
