/** Promises 5, 9 and 10: count, begin, run; STEPS and THUNKS of each kind of E. */
public final class RunTest {
    public static void main(String[] args) {
        counts();
        begins();
        runs();
        steps();
        sharing();
        functions();
        numbers();
        ends();
        House.end();
    }

    private static void counts() {
        House house = House.of("data P a = P a Int | Q\nf x y = \\z -> case z of (a, _) -> let b = a in b\nmain = 1 -- 2");
        int[] want = {34, 2, 7, 2, 2, 0, 0, 0, 0, 0, 0, 0, 0};
        for (int what = 0; what < want.length; what++) {
            House.due("counts", "count(" + what + ")", house.it.count(what), want[what]);
        }
        House.due("counts", "count(-1)", house.it.count(-1), -1);
        House.due("counts", "count(13)", house.it.count(13), -1);
        House.due("counts", "count(MIN)", house.it.count(Integer.MIN_VALUE), -1);
        House.due("counts", "count(MAX)", house.it.count(Integer.MAX_VALUE), -1);
        House other = new House();
        House.due("counts", "no program, count(-1)", other.it.count(-1), -1);
        House.due("counts", "no program, count(13)", other.it.count(13), -1);
    }

    private static String thrown(NeedHouse it, int n) {
        try {
            return "" + it.run(n);
        } catch (IllegalStateException e) {
            return "state";
        } catch (IllegalArgumentException e) {
            return "argument";
        }
    }

    private static void begins() {
        House house = House.of("main = [1 + 2, 3]");
        House.due("begin", "run", thrown(house.it, 1), "state");
        house.it.begin();
        House.due("begin", "count(5)", house.it.count(5), 1);
        House.due("begin", "count(7)", house.it.count(7), 1);
        House.due("begin", "run(3)", house.it.run(3), 3);
        house.it.begin();
        House.due("begin", "count(6)", house.it.count(6), 0);
        House.due("begin", "count(7)", house.it.count(7), 1);
        House.due("begin", "count(11)", house.it.count(11), 0);
        House.due("begin", "run(2000)", house.it.run(2000), 8);
        House.due("begin", "text", house.text(), "[3,3]");
        house.it.begin();
        House.due("begin", "count(5)", house.it.count(5), 1);
        House.due("begin", "run(2000)", house.it.run(2000), 8);
        house.tape("main = q").it.read();
        boolean thrown = false;
        try {
            house.it.begin();
        } catch (IllegalStateException e) {
            thrown = true;
        }
        House.due("begin", "throws", thrown ? 1 : 0, 1);
        House.due("begin", "run", thrown(house.it, 1), "state");
    }

    private static void runs() {
        House house = House.begun("main = 1 + 2");
        House.due("run", "run(-1)", thrown(house.it, -1), "argument");
        House.due("run", "run(2001)", thrown(house.it, 2001), "argument");
        House.due("run", "run(MIN)", thrown(house.it, Integer.MIN_VALUE), "argument");
        House.due("run", "run(0)", house.it.run(0), 0);
        House.due("run", "count(6)", house.it.count(6), 0);
        House.due("run", "run(1)", house.it.run(1), 1);
        House.due("run", "run(2)", house.it.run(2), 2);
        House.due("run", "count(6)", house.it.count(6), 3);
        House.due("run", "count(5)", house.it.count(5), 1);
        House.due("run", "run(2000)", house.it.run(2000), 1);
        House.due("run", "count(5)", house.it.count(5), 2);
        House.due("run", "ended", thrown(house.it, 0), "state");
        House.due("run", "ended", thrown(house.it, 2000), "state");
        House.due("run", "ended", thrown(house.it, 2001), "argument");
        House.due("run", "count(6)", house.it.count(6), 4);
        House.due("run", "text", house.text(), "3");
        House.due("run", "run(2000)", House.begun("f x = f x\nmain = f 1").it.run(2000), 2000);
    }

    /** The STEPS of a run to its end, the THUNKS made and those that got a value, and the text. */
    private static void whole(String text, int steps, int made, int got, String shown) {
        House house = House.ran(text);
        House.due(text, "count(5)", house.it.count(5), 2);
        House.due(text, "count(6)", house.it.count(6), steps);
        House.due(text, "count(7)", house.it.count(7), made);
        House.due(text, "count(8)", house.it.count(8), got);
        House.due(text, "text", house.text(), shown);
        House.due(text, "count(9)", house.it.count(9), 0);
        House.due(text, "count(10)", house.it.count(10), 0);
        House.due(text, "count(11)", house.it.count(11), shown.length());
    }

    private static void steps() {
        whole("main = 7", 1, 0, 0, "7");
        whole("main = True", 1, 0, 0, "True");
        whole("main = x\nx = 7", 2, 0, 1, "7");
        whole("main = ((7))", 1, 0, 0, "7");
        whole("main = 1 + 2", 4, 0, 1, "3");
        whole("main = 1 + 2 * 3 - 4", 8, 0, 1, "3");
        whole("main = [1 + 2, 3]", 8, 1, 1, "[3,3]");
        whole("main = 1 + 2 : 3 : []", 8, 1, 1, "[3,3]");
        whole("main = (1, (2, 3))", 5, 0, 0, "(1,(2,3))");
        whole("main = if True then 1 else 1 / 0", 4, 0, 1, "1");
        whole("main = if False then 1 / 0 else 2", 4, 0, 1, "2");
        whole("main = True && False", 4, 0, 1, "False");
        whole("main = False && 1 / 0 == 1", 3, 0, 1, "False");
        whole("main = True || 1 / 0 == 1", 3, 0, 1, "True");
        whole("main = False || True", 4, 0, 1, "True");
        whole("main = case (1, 1 / 0) of (a, b) -> a", 4, 1, 1, "1");
        whole("main = case 3 of 1 -> 2; x -> x", 4, 0, 1, "3");
        whole("main = case [5] of [] -> 1; x : xs -> x", 4, 0, 1, "5");
        whole("main = let x = 1 in x", 3, 0, 1, "1");
        whole("main = say 1 2", 5, 0, 1, "2");
        whole("main = say (1 + 1) (2 + 2)", 11, 2, 3, "4");
        whole("main = (\\x y -> x) 1 2", 4, 0, 1, "1");
    }

    private static void sharing() {
        whole("main = let x = 1 + 2 in x + x", 8, 1, 2, "6");
        whole("f x = x + x\nmain = f (1 + 2)", 9, 1, 2, "6");
        whole("k a b = a\nmain = k 1 (1 / 0)", 4, 1, 1, "1");
        whole("x = 1 + 2\nmain = (x, x)", 6, 0, 1, "(3,3)");
        // A NAME alone is a new THUNK as the E of a DEFINITION, itself as an ARGUMENT.
        whole("main = let x = 1; y = x in y", 4, 1, 2, "1");
        whole("i x = x\nmain = let x = 1 in i x", 5, 0, 1, "1");
        whole("main = let xs = 1 : ys; ys = [2] in xs", 7, 0, 1, "[1,2]");
        whole("main = let f x = y x; y = \\z -> 4 in f 3", 7, 0, 1, "4");
        // What stands FREE in it goes with a THUNK, a FUNCTION, a branch and an operand.
        whole("f a b c = let t = a * 100 + b * 10 + c in t + t\nmain = f 1 2 3", 16, 1, 2, "246");
        House.shows("f a b c = \\d -> a * 1000 + b * 100 + c * 10 + d\ng h = h 4\nmain = g (f 1 2 3)", "1234");
        House.shows("f a b c = if c < a then 0 else f c a b + a * 100 + b * 10 + c\nmain = f 1 2 3", "123");
        House.shows("f a b c = (case (if a == 0 then 0 else f (a - 1) c b) of x -> x + a + 10 * b + 100 * c)\n"
                + "main = f 1 2 3", "551");
        House.shows("f a b = let g x = if x == 0 then a else h (x - 1); h x = if x == 0 then b else g (x - 1) in (g 5, h 5)\n"
                + "main = f 1 2", "(2,1)");
        House.shows("f a b = let xs = a : ys; ys = b : xs in case ys of _ : zs -> case zs of z : _ -> z\nmain = f 7 8", "7");
        // So it does when there are many names, and when what is not THERE has been given up often.
        House.shows(many(70) + "f a b c = let g d = a - b * d in g c\nmain = f 100 7 6", "58");
        House.shows("f n a b c = if n == 0 then [a, b, c] else f (n - 1) b c a\nmain = f 3000 [1] [2] [3]", "[[1],[2],[3]]");
        House.shows("f n g h = if n == 0 then g n + h n else let k = \\x -> g x + 1; m = \\x -> h x + 2 in "
                + "if n > 100 then f (n - 1) g h else f (n - 1) k m\nmain = f 2000 (\\x -> x) (\\x -> 5 - x)", "305");
        // THUNKS in fields of the PROGRAM's VALUES count, those of its DEFINITIONS don't.
        whole("a = 1 + 1\nb = [a, 1 + 1, a + a]\nmain = 0", 1, 2, 0, "0");
    }

    private static String many(int n) {
        StringBuilder text = new StringBuilder();
        for (int k = 0; k < n / 2; k++) {
            text.append("d").append(k).append(" x = x\n");
        }
        return text.toString();
    }

    private static void functions() {
        whole("f x = x\nmain = f 5", 4, 0, 1, "5");
        whole("add x y = x + y\nmain = add 1 2", 6, 0, 1, "3");
        whole("c x = \\y -> x\nmain = c 1 2", 5, 0, 1, "1");
        whole("add x y = x + y\ninc = add 1\nmain = inc 2", 8, 0, 2, "3");
        whole("data P = P Int Int\nmain = (P 1) 2", 6, 0, 1, "(P 1 2)");
        whole("data P = P Int Int\nmain = P 1 2", 3, 0, 0, "(P 1 2)");
        whole("data P = P Int Int\np = P\nmain = p 1 2", 5, 0, 1, "(P 1 2)");
        whole("main = (say 1, say)", 5, 1, 1, "(fun,fun)");
        whole("s = say\nmain = s 1 2", 6, 0, 2, "2");
        whole("main = (say 1) 2", 6, 0, 1, "2");
        whole("main = say 1 (\\x -> x) 5", 6, 0, 1, "5");
        whole("f x y z = y\nmain = (f 1) 2 3", 5, 0, 1, "2");
    }

    private static void numbers() {
        House.shows("main = 2147483647 + 1", "-2147483648");
        House.shows("main = 0 - 2147483647 - 2", "2147483647");
        House.shows("main = 65536 * 65536 * 3 + 5", "5");
        House.shows("main = (0 - 7) / 2", "-3");
        House.shows("main = (0 - 7) % 2", "-1");
        House.shows("main = 7 / (0 - 2)", "-3");
        House.shows("main = 7 % (0 - 2)", "1");
        House.shows("main = (0 - 2147483647 - 1) / (0 - 1)", "-2147483648");
        House.shows("main = (0 - 2147483647 - 1) % (0 - 1)", "0");
        House.shows("main = 10 - 3 - 2", "5");
        House.shows("main = 100 / 5 * 2 % 7", "5");
        House.shows("main = [1 < 2, 2 <= 2, 1 > 2, 2 >= 3, 1 == 1, 1 /= 1]", "[True,True,False,False,True,False]");
        House.shows("main = 1 + 2 < 4 && 5 > 4 || 1 / 0 == 0", "True");
        House.shows("main = True || True && False", "True");
        House.shows("main = False && False || True", "True");
        House.shows("main = 1 + 1 : 2 * 2 : []", "[2,4]");
    }

    private static void ends() {
        House.ends("main = let x = x + 1 in x", 3, 5);
        House.ends("main = main", 3, 2);
        House.ends("a = b\nb = a\nmain = a", 3, 4);
        House.ends("main = case 1 of 2 -> 3", 4, 3);
        House.ends("main = case [] of x : y -> 3", 4, 3);
        House.ends("main = [1, case True of False -> 2]", 4, 6);
        House.ends("main = 1 / 0", 5, 4);
        House.ends("main = 1 % (2 - 2)", 5, 6);
        House.ends("main = let xs = 1 : 2 / 0 : xs in xs", 5, 9);
    }
}
