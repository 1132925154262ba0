/** The edges of "==== 4. RUN": numbers, the ends of a run, and promises 9 and 10 (begin, run). */
public final class RunEdgesTest {
    private static final String MIN = "(0 - 2147483647 - 1)";

    public static void main(String[] args) {
        wraps();
        quotients();
        byZero();
        tests();
        numbersThatFit();
        loops();
        noLoops();
        misses();
        firstThatFits();
        logic();
        howManySteps();
        bounds();
        mostSteps();
        goesOn();
        ended();
        beginsAnew();
        withoutProgram();
        whatThrows();
        argumentsOfAll();
        House.end();
    }

    /** "numbers (ints, which wrap)". */
    private static void wraps() {
        House.shows("main = 2147483646 + 1", "2147483647");
        House.shows("main = 2147483647 + 0", "2147483647");
        House.shows("main = 2147483647 + 1", "-2147483648");
        House.shows("main = 2147483647 + 2147483647", "-2");
        House.shows("main = 0 - 2147483647", "-2147483647");
        House.shows("main = 0 - 2147483647 - 1", "-2147483648");
        House.shows("main = 0 - 2147483647 - 2", "2147483647");
        House.shows("main = 0 - " + MIN, "-2147483648");
        House.shows("main = " + MIN + " + " + MIN, "0");
        House.shows("main = 46340 * 46340", "2147395600");
        House.shows("main = 46341 * 46341", "-2147479015");
        House.shows("main = 2147483647 * 2", "-2");
        House.shows("main = 65536 * 65536", "0");
        House.shows("main = 65536 * 32768", "-2147483648");
        House.shows("main = " + MIN + " * (0 - 1)", "-2147483648");
        House.shows("main = 2147483647 * (0 - 1)", "-2147483647");
    }

    /** "/ towards 0, % its rest". */
    private static void quotients() {
        int[][] pairs = {{7, 2}, {-7, 2}, {7, -2}, {-7, -2}, {6, 7}, {-6, 7}, {6, -7}, {7, 7}, {-7, 7}, {8, 7}, {0, 7}, {0, -7},
            {1, 1}, {5, 1}, {5, -1}, {2147483647, 2}, {2147483647, -1}, {2147483647, 2147483647}, {-2147483647, 2}};
        for (int[] pair : pairs) {
            String sum = "(0 + " + written(pair[0]) + ")";
            House.shows("main = " + sum + " / (" + written(pair[1]) + ")", "" + pair[0] / pair[1]);
            House.shows("main = " + sum + " % (" + written(pair[1]) + ")", "" + pair[0] % pair[1]);
        }
        House.shows("main = " + MIN + " / (0 - 1)", "-2147483648");
        House.shows("main = " + MIN + " % (0 - 1)", "0");
        House.shows("main = " + MIN + " / 2", "-1073741824");
        House.shows("main = " + MIN + " % 10", "-8");
        House.shows("main = " + MIN + " / " + MIN, "1");
        House.shows("main = 1 / " + MIN, "0");
    }

    private static String written(int number) {
        return number < 0 ? "(0 - " + -number + ")" : "" + number;
    }

    /** "by 0: it ENDS as ZERO". */
    private static void byZero() {
        House.ends("main = 1 / 0", 5, 4);
        House.ends("main = 1 % 0", 5, 4);
        House.ends("main = 0 / 0", 5, 4);
        House.ends("main = 0 % 0", 5, 4);
        House.ends("main = " + MIN + " / 0", 5, 8);
        House.ends("main = 1 / (1 - 1)", 5, 6);
        House.ends("main = 1 / 1", 2, 4);
        House.ends("main = 0 / 1", 2, 4);
        House.ends("main = 1 * 0", 2, 4);
        // What is not asked for is not worked out, and what is, once it is come to.
        House.shows("k a b = a\nmain = k 1 (1 / 0)", "1");
        House.shows("main = case [1 / 0] of x : _ -> 2", "2");
        House.shows("main = True || 1 / 0 == 1", "True");
        House.shows("main = if True then 1 else 1 / 0", "1");
        House late = House.ran("main = [1, 2 / 0, 3]");
        House.due("late", "count(5)", late.it.count(5), 5);
        House.due("late", "text", late.text(), "[1,");
        // The right one is worked out ahead of that, too: its end counts.
        House.ends("main = 1 / (case 1 of 2 -> 0)", 4, 5);
        House.ends("main = (1 / 0) / (case 1 of 2 -> 0)", 5, 5);
    }

    /** "== .. >=" below, at and above. */
    private static void tests() {
        String[] pairs = {"1 # 2", "2 # 2", "3 # 2", MIN + " # 2147483647", "2147483647 # " + MIN, "(0 - 1) # 0", "0 # (0 - 1)"};
        int[] order = {-1, 0, 1, -1, 1, -1, 1};
        for (int k = 0; k < pairs.length; k++) {
            House.shows("main = " + pairs[k].replace("#", "=="), name(order[k] == 0));
            House.shows("main = " + pairs[k].replace("#", "/="), name(order[k] != 0));
            House.shows("main = " + pairs[k].replace("#", "<"), name(order[k] < 0));
            House.shows("main = " + pairs[k].replace("#", "<="), name(order[k] <= 0));
            House.shows("main = " + pairs[k].replace("#", ">"), name(order[k] > 0));
            House.shows("main = " + pairs[k].replace("#", ">="), name(order[k] >= 0));
        }
    }

    private static String name(boolean it) {
        return it ? "True" : "False";
    }

    private static void numbersThatFit() {
        for (int number : new int[] {-1, 0, 1, 4, 5, 6, 2147483646, 2147483647}) {
            String want = number == 0 ? "10" : number == 5 ? "11" : number == 2147483647 ? "12" : "13";
            House.shows("main = case " + written(number) + " of 0 -> 10; 5 -> 11; 2147483647 -> 12; _ -> 13", want);
        }
    }

    /** "a THUNK that is HELD: the run ENDS as LOOP". */
    private static void loops() {
        House.ends("main = main", 3, 2);
        House.ends("main = x\nx = main", 3, 3);
        House.ends("main = let x = x in x", 3, 4);
        House.ends("main = let x = y; y = x in x", 3, 5);
        House.ends("main = let x = 1 + x in x", 3, 6);
        House.ends("main = let x = x + 1 in x", 3, 5);
        House.ends("f x = x\nmain = let x = f x in x", 3, 6);
        House.ends("main = let xs = 1 : ys; ys = case xs of _ : zs -> zs in ys", 3, 6);
        House held = House.ran("x = main\nmain = 1 + x");
        House.due("held", "global(0, 0)", held.it.global(0, 0), 1);
        House.due("held", "global(1, 0)", held.it.global(1, 0), 1);
        House.due("held", "count(8)", held.it.count(8), 0);
    }

    /** "it is WORKED OUT when it is asked for the first time, HELD till then, and is its value from then on". */
    private static void noLoops() {
        House.shows("main = let x = 1 + 1 in x + x", "4");
        House.shows("main = let x = x in 1", "1");
        House.shows("x = x\nmain = 1", "1");
        House.shows("main = let xs = 1 : xs in case xs of _ : ys -> case ys of y : _ -> y", "1");
        House.shows("main = let f x = if x == 0 then 0 else f (x - 1) in f 3", "0");
        House.shows("x = 1 : y\ny = 2 : x\nmain = case x of _ : a -> case a of _ : b -> case b of c : _ -> c", "1");
        House once = House.ran("x = say 1 2\nmain = x + x * x");
        House.due("once", "count(12)", once.it.count(12), 1);
        House.due("once", "text", once.text(), "6");
    }

    /** "none: it ENDS as MISS". */
    private static void misses() {
        House.ends("main = case 1 of 2 -> 3", 4, 3);
        House.ends("main = case 1 of 1 -> 3", 2, 4);
        House.ends("main = case 1 of 2 -> 3; 3 -> 4; 4 -> 5", 4, 3);
        House.ends("main = case 1 of 2 -> 3; 3 -> 4; 1 -> 5", 2, 4);
        House.ends("main = case True of False -> 1", 4, 3);
        House.ends("main = case [] of x : y -> 1", 4, 3);
        House.ends("main = case [1] of [] -> 1", 4, 3);
        House.ends("data A = B | C Int\nmain = case B of C x -> 1", 4, 3);
        House.ends("data A = B | C Int\nmain = case C 1 of B -> 1", 4, 3);
        House.ends("main = case 1 of x -> 2", 2, 4);
        House.ends("main = case 1 of _ -> 2", 2, 4);
        // Its fields are not asked for.
        House.shows("main = case (1 / 0, 2) of (a, b) -> b", "2");
    }

    /** "the first ITEM whose PATTERN fits". */
    private static void firstThatFits() {
        House.shows("main = case 1 of 1 -> 2; 1 -> 3; _ -> 4", "2");
        House.shows("main = case 1 of _ -> 2; 1 -> 3", "2");
        House.shows("main = case 1 of x -> x + 5; 1 -> 3", "6");
        House.shows("main = case [1] of [] -> 2; x : y -> 3", "3");
        House.shows("main = case [1] of x : _ -> x; x : y -> 3", "1");
        // However a list came to be, its end is [ ], and what is ahead of that a : .
        String sum = "sum xs = case xs of [] -> 0; y : ys -> y + sum ys\nsame n = if n == 0 then [] else n : same (n - 1)\n";
        House.shows(sum + "main = sum [1, 2, 3]", "6");
        House.shows(sum + "main = sum (1 : 2 : 3 : [])", "6");
        House.shows(sum + "main = sum (1 : [2, 3])", "6");
        House.shows(sum + "main = sum (same 3)", "6");
        House.shows(sum + "xs = [1, 2, 3]\nmain = sum xs + sum xs", "12");
        House.shows(sum + "main = sum []", "0");
        House.shows("main = case (1, True) of (x, y) -> case y of False -> 0; True -> x", "1");
        House.shows("data T = A | B Int | C Int Int\nf t = case t of C x y -> x - y; B x -> x; A -> 0\nmain = [f A, f (B 5), f (C 9 2)]",
                "[0,5,7]");
    }

    /** "&& ||: the left one; then the right one, if that is not the answer yet". */
    private static void logic() {
        House.ends("main = True && True", 2, 4);
        House.ends("main = True && False", 2, 4);
        House.ends("main = False && True", 2, 3);
        House.ends("main = False || True", 2, 4);
        House.ends("main = False || False", 2, 4);
        House.ends("main = True || False", 2, 3);
        House.shows("main = [True && True, True && False, False && True, False && False]", "[True,False,False,False]");
        House.shows("main = [True || True, True || False, False || True, False || False]", "[True,True,True,False]");
        House.ends("main = False && 1 / 0 == 1", 2, 3);
        House.ends("main = True && 1 / 0 == 1", 5, 7);
    }

    /** How many STEPS each program has: 4. */
    private static void howManySteps() {
        for (int n = 0; n <= 6; n++) {
            House house = House.begun("main = 1 + 2");
            House.due("4 STEPS", "run(" + n + ")", house.it.run(n), Math.min(n, 4));
            House.due("4 STEPS", "count(5) behind " + n, house.it.count(5), n < 4 ? 1 : 2);
            House.due("4 STEPS", "count(6) behind " + n, house.it.count(6), Math.min(n, 4));
            House.due("4 STEPS", "text behind " + n, house.text(), n < 4 ? "" : "3");
        }
        // Each sign with its two operands is an E of its own: main, the signs, and what they stand between.
        House.ends("main = 1 + 2 + 3", 2, 1 + 2 + 3);
        House.ends("main = 8 - 2 * 3 - 1", 2, 1 + 3 + 4);
        House.ends("main = 1 * 2 / 3 % 4 == 5 + 6 + 7", 2, 1 + 6 + 7);
        House.ends("main = False || False || True", 2, 1 + 2 + 3);
        House.ends("main = True && True && False", 2, 1 + 2 + 3);
        House.ends("main = True || False || False", 2, 1 + 1 + 1);
        House.ends("main = (False || True) || False", 2, 1 + 2 + 2);
        // What follows from a STEP belongs to it, up to the next one: the end, too.
        House list = House.begun("main = []");
        House.due("list", "run(1)", list.it.run(1), 1);
        House.due("list", "count(5)", list.it.count(5), 2);
        House pair = House.begun("main = (1, 2)");
        String[] texts = {"", "(", "(1,", "(1,2)"};
        for (String text : texts) {
            House.due("pair", "text", pair.text(), text);
            pair.run(1);
        }
    }

    /** "IllegalArgumentException: n is not 0 .. 2000". */
    private static void bounds() {
        House house = House.begun("f x = f x\nmain = f 1");
        String before = house.all();
        for (int n : new int[] {-1, -2, 2001, 2002, Integer.MIN_VALUE, Integer.MAX_VALUE}) {
            House.due("bounds", "run(" + n + ")", house.run(n), "argument");
            House.due("bounds", "as it was behind " + n, house.all(), before);
        }
        House.due("bounds", "run(0)", house.run(0), "0");
        House.due("bounds", "as it was", house.all(), before);
        House.due("bounds", "run(1)", house.run(1), "1");
        House.due("bounds", "run(1999)", house.run(1999), "1999");
        House.due("bounds", "run(2000)", house.run(2000), "2000");
        House.due("bounds", "count(6)", house.it.count(6), 4000);
        House.due("bounds", "count(5)", house.it.count(5), 1);
    }

    /** Runs of 1,999, 2,000 and 2,001 STEPS: f 221 has 1,996, and main is asked for. */
    private static void mostSteps() {
        String f = "f n = if n == 0 then 0 else f (n - 1)\n";
        House less = House.begun(f + "main = 1 + f 221");
        House.due("1999", "run", less.run(2000), "1999");
        House.due("1999", "count(5)", less.it.count(5), 2);
        House same = House.begun(f + "y = 1 + f 221\nmain = y");
        House.due("2000", "run", same.run(2000), "2000");
        House.due("2000", "count(5)", same.it.count(5), 2);
        House.due("2000", "again", same.run(2000), "state");
        House more = House.begun(f + "main = 1 + 1 + f 221");
        House.due("2001", "run", more.run(2000), "2000");
        House.due("2001", "count(5)", more.it.count(5), 1);
        House.due("2001", "text", more.text(), "");
        House.due("2001", "again", more.run(2000), "1");
        House.due("2001", "count(5)", more.it.count(5), 2);
        House.due("2001", "count(6)", more.it.count(6), 2001);
        House.due("2001", "text", more.text(), "2");
    }

    /** Many runs of few STEPS are one run of many. */
    private static void goesOn() {
        String text = "f n = if n == 0 then [] else n : f (n - 1)\nmain = f 9";
        House whole = House.ran(text);
        House parts = House.begun(text);
        int began = 0;
        for (int n = 0; n < 300 && parts.it.count(5) == 1; n++) {
            began += parts.it.run(n % 4);
        }
        House.due("parts", "count(6)", began, whole.it.count(6));
        House.due("parts", "all", parts.all(), whole.all());
        House.due("parts", "text", parts.text(), "[9,8,7,6,5,4,3,2,1]");
    }

    /** "IllegalStateException: no run goes on", however it ended; and what is told of it then. */
    private static void ended() {
        String[] texts = {"main = say 7 8", "main = say 7 main", "main = say 7 (case 1 of 2 -> 3)", "main = say 7 (1 / 0)",
            "f n = f (n + 1)\nmain = say 7 (f 0)", "f n = 1 + f n\nmain = say 7 (f 0)"};
        for (int k = 0; k < texts.length; k++) {
            House house = House.ran(texts[k]);
            House.due(texts[k], "count(5)", house.it.count(5), 2 + k);
            String before = house.all();
            House.due(texts[k], "run(0)", house.run(0), "state");
            House.due(texts[k], "run(1)", house.run(1), "state");
            House.due(texts[k], "run(2000)", house.run(2000), "state");
            House.due(texts[k], "run(-1)", house.run(-1), "argument");
            House.due(texts[k], "as it was", house.all(), before);
            House.due(texts[k], "count(9)", house.it.count(9), 0);
            House.due(texts[k], "count(10)", house.it.count(10), 0);
            House.due(texts[k], "count(12)", house.it.count(12), 1);
            House.due(texts[k], "said(0)", house.it.said(0), 7);
        }
    }

    /** "A run begins": of one that goes on, and of each that ended, nothing is left. */
    private static void beginsAnew() {
        String[] texts = {"main = [say 7 8, 1 + 1]", "main = say 7 main", "main = say 7 (case 1 of 2 -> 3)",
            "main = say 7 (1 / 0)", "f n = f (n + 1)\nmain = say 7 (f 0)", "f n = 1 + f n\nmain = say 7 (f 0)"};
        for (String text : texts) {
            House house = House.begun(text);
            String begun = house.all();
            house.run(7);
            House.due(text, "begin", house.begin(), "begun");
            House.due(text, "as it began", house.all(), begun);
            for (int n = 0; n < 20 && house.it.count(5) == 1; n++) {
                house.run(2000);
            }
            String end = house.all();
            House.due(text, "begin", house.begin(), "begun");
            House.due(text, "as it began", house.all(), begun);
            for (int n = 0; n < 20 && house.it.count(5) == 1; n++) {
                house.run(2000);
            }
            House.due(text, "as it ended", house.all(), end);
        }
    }

    /** "IllegalStateException: there is no program". */
    private static void withoutProgram() {
        House house = new House();
        House.due("none", "begin", house.begin(), "state");
        House.due("none", "run(0)", house.run(0), "state");
        House.due("none", "run(2001)", house.run(2001), "argument");
        house.tape("main = (").it.read();
        House.due("fault", "begin", house.begin(), "state");
        House.due("fault", "run(0)", house.run(0), "state");
        house.tape("main = 5").it.read();
        House.due("program", "run(0)", house.run(0), "state");
        House.due("program", "begin", house.begin(), "begun");
        House.due("program", "run(1)", house.run(1), "1");
        // Another program: no run of it has begun.
        house.tape("main = 6").it.read();
        House.due("another", "run(0)", house.run(0), "state");
        House.due("another", "text", house.text(), "");
        House.due("another", "begin", house.begin(), "begun");
        House.due("another", "run(1)", house.run(1), "1");
        House.due("another", "text", house.text(), "6");
        // A run that goes on is over when a text is read, a wrong one, too.
        house.tape("main = 1 + 1").it.read();
        house.begin();
        house.run(1);
        house.tape("main = )").it.read();
        House.due("over", "run(0)", house.run(0), "state");
        House.due("over", "begin", house.begin(), "state");
    }

    /** "What throws changes nothing": the TAPE, the program and the run are as they were. */
    private static void whatThrows() {
        House house = House.begun("x = 1 + 1\nmain = [x, x]").tape("main = 4");
        house.run(4);
        String before = house.all();
        House.due("throws", "run(2001)", house.run(2001), "argument");
        House.due("throws", "run(-1)", house.run(-1), "argument");
        House.due("throws", "all", house.all(), before);
        House.due("throws", "tape", house.it.back(0), 8);
        House.due("throws", "run(3)", house.run(3), "3");
        House.due("throws", "read", house.it.read(), 0);
        House.due("throws", "run(1)", house.run(1), "state");
        House.due("throws", "begin", house.begin(), "begun");
        House none = new House().tape("main = 4");
        House.due("throws", "begin", none.begin(), "state");
        House.due("throws", "run(1)", none.run(1), "state");
        House.due("throws", "tape", none.it.back(0), 8);
        House.due("throws", "read", none.it.read(), 0);
        House.due("throws", "run(1)", none.run(1), "state");
        House.due("throws", "count(5)", none.it.count(5), 0);
        House.due("throws", "begin", none.begin(), "begun");
        House.due("throws", "run(1)", none.run(1), "1");
        House.due("throws", "text", none.text(), "4");
    }

    /** FUNCTIONS with fewer ARGUMENTS than they want, with as many, and with more. */
    private static void argumentsOfAll() {
        String f = "data P = P Int Int\nf a b = \\c -> a * 100 + b * 10 + c\n";
        House.shows(f + "main = [f 1]", "[fun]");
        House.shows(f + "main = [f 1 2]", "[fun]");
        House.shows(f + "main = f 1 2 3", "123");
        House.shows(f + "main = (f 1) 2 3", "123");
        House.shows(f + "main = (f 1 2) 3", "123");
        House.shows(f + "main = ((f 1) 2) 3", "123");
        House.shows(f + "g = f 1\nmain = (g 2 3, g 4 5)", "(123,145)");
        House.shows(f + "main = [P 1]", "[fun]");
        House.shows(f + "main = P 1 2", "(P 1 2)");
        House.shows(f + "p = P 1\nmain = (p 2, p 3)", "((P 1 2),(P 1 3))");
        House.shows(f + "main = (say, say 1)", "(fun,fun)");
        House.shows(f + "s = say 1\nmain = (s 2, s 3)", "(2,3)");
        House.due("twice", "count(12)", House.ran("s = say 1\nmain = (s 2, s 3)").it.count(12), 2);
        House.shows("main = say 1 (\\a b -> a - b) 5 3", "2");
    }
}
