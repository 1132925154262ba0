/** What each promise answers without a program, without a run, and for what is none of its things. */
public final class AnswerEdgesTest {
    private static final String TEXT = "data D = D Int | E\nf x y = say y [y]\nmain = f 1 2";

    public static void main(String[] args) {
        House.due("NONE", "it is", NeedHouse.NONE, -1);
        newObject();
        tapeAlone();
        faulty();
        program();
        begun();
        ended();
        programThatWent();
        countsOfWhat();
        countsOfProgram();
        thunksMade();
        thunksThatGotAValue();
        twoObjects();
        manyPrograms();
        House.end();
    }

    /** All answers of an object that has no program. */
    private static void nothing(String where, House house) {
        for (int what = 0; what <= 12; what++) {
            House.due(where, "count(" + what + ")", house.it.count(what), 0);
        }
        for (int k = -1; k <= 1; k++) {
            House.due(where, "sign(0, " + k + ")", house.it.sign(0, k), -1);
            House.due(where, "sign(" + k + ", 0)", house.it.sign(k, 0), -1);
            House.due(where, "strict(" + k + ", 0)", house.it.strict(k, 0), -1);
            House.due(where, "strict(0, " + k + ")", house.it.strict(0, k), -1);
            House.due(where, "group(" + k + ")", house.it.group(k), -1);
            House.due(where, "global(" + k + ", 0)", house.it.global(k, 0), -1);
            House.due(where, "global(0, " + k + ")", house.it.global(0, k), -1);
            House.due(where, "shown(" + k + ")", house.it.shown(k), -1);
            House.due(where, "said(" + k + ")", house.it.said(k), 0);
        }
        others(where, house);
        House.due(where, "begin()", house.begin(), "state");
        House.due(where, "run(0)", house.run(0), "state");
        House.due(where, "run(2000)", house.run(2000), "state");
        House.due(where, "run(-1)", house.run(-1), "argument");
        House.due(where, "run(2001)", house.run(2001), "argument");
    }

    /** "NONE for another what". */
    private static void others(String where, House house) {
        for (int what : new int[] {-1, 13, -2, 14, Integer.MIN_VALUE, Integer.MAX_VALUE}) {
            House.due(where, "count(" + what + ")", house.it.count(what), -1);
        }
    }

    /** "An empty tape, no program". */
    private static void newObject() {
        House house = new House();
        House.due("new", "back(0)", house.it.back(0), 0);
        House.due("new", "back(1)", house.it.back(1), -1);
        nothing("new", house);
        House.due("new", "read()", house.it.read(), 5 + 16);
        nothing("new and read", house);
    }

    private static void tapeAlone() {
        House house = new House().tape(TEXT);
        nothing("tape", house);
        House.due("tape", "back(0)", house.it.back(0), TEXT.length());
        House.due("tape", "read()", house.it.read(), 0);
    }

    /** "or a fault: kind + 16 * line, there is no program then": for each kind. */
    private static void faulty() {
        String[] texts = {"main = #", "main = )", " main = 1\nx", "main = 1\nmain = 1", "main = q", "main = case True of True x -> 1",
            "main = 1 1", "main = [1,1,1,1,1,1,1,1,1,1,1,1,1]"};
        int[] answers = {1 + 16, 2 + 16, 3 + 32, 4 + 32, 5 + 16, 6 + 16, 7 + 16, 8};
        for (int k = 0; k < texts.length; k++) {
            House house = new House().tape(texts[k]);
            House.due(texts[k], "read()", house.it.read(), answers[k]);
            nothing(texts[k], house);
            House.due(texts[k], "back(0)", house.it.back(0), 0);
        }
    }

    private static void told(String where, House house) {
        int[] counts = {21, 2, 4, 2, 2};
        for (int what = 0; what < counts.length; what++) {
            House.due(where, "count(" + what + ")", house.it.count(what), counts[what]);
        }
        House.due(where, "strict(0, 0)", house.it.strict(0, 0), 0);
        House.due(where, "strict(0, 1)", house.it.strict(0, 1), 1);
        House.due(where, "strict(0, 2)", house.it.strict(0, 2), -1);
        House.due(where, "group(1)", house.it.group(1), 1);
        House.due(where, "group(2)", house.it.group(2), -1);
        House.due(where, "sign(1)", house.sign(1), "main :: [Int]");
        House.due(where, "sign(0)", house.sign(0), "f :: a -> Int -> [Int]");
        others(where, house);
    }

    /** A program without a run: "(5 to 12: run)". */
    private static void program() {
        House house = House.of(TEXT);
        told("program", house);
        for (int what = 5; what <= 12; what++) {
            House.due("program", "count(" + what + ")", house.it.count(what), 0);
        }
        House.due("program", "global(0, 0)", house.it.global(0, 0), -1);
        House.due("program", "shown(0)", house.it.shown(0), -1);
        House.due("program", "said(0)", house.it.said(0), 0);
        House.due("program", "run(0)", house.run(0), "state");
        House.due("program", "run(2001)", house.run(2001), "argument");
    }

    private static void begun() {
        House house = House.begun(TEXT);
        told("begun", house);
        int[] counts = {1, 0, 0, 0, 0, 0, 0, 0};
        for (int what = 5; what <= 12; what++) {
            House.due("begun", "count(" + what + ")", house.it.count(what), counts[what - 5]);
        }
        House.due("begun", "global(0, 0)", house.it.global(0, 0), 2);
        House.due("begun", "global(1, 0)", house.it.global(1, 0), 0);
        House.due("begun", "shown(0)", house.it.shown(0), -1);
        House.due("begun", "said(0)", house.it.said(0), 0);
        // main, the CALL, f, the CALL of say, say, y; then [y], which is shown, y, and the rest.
        int[][] steps = {{1, 0, 0, 1, 0, 0}, {2, 0, 0, 2, 0, 0}, {3, 0, 0, 1, 0, 0}, {4, 0, 3, 2, 0, 0}, {5, 0, 3, 2, 0, 0},
            {6, 0, 3, 1, 0, 1}, {7, 1, 3, 1, 1, 1}, {8, 1, 3, 1, 2, 1}};
        for (int[] row : steps) {
            House.due("STEP", "run(1)", house.run(1), "1");
            House.due("STEP", "count(6)", house.it.count(6), row[0]);
            House.due("STEP " + row[0], "count(8)", house.it.count(8), row[1]);
            House.due("STEP " + row[0], "count(9)", house.it.count(9), row[2]);
            House.due("STEP " + row[0], "count(10)", house.it.count(10), row[3]);
            House.due("STEP " + row[0], "count(11)", house.it.count(11), row[4]);
            House.due("STEP " + row[0], "count(12)", house.it.count(12), row[5]);
        }
    }

    private static void ended() {
        House house = House.ran(TEXT);
        told("ended", house);
        int[] counts = {2, 9, 0, 1, 0, 0, 3, 1};
        for (int what = 5; what <= 12; what++) {
            House.due("ended", "count(" + what + ")", house.it.count(what), counts[what - 5]);
        }
        House.due("ended", "text", house.text(), "[2]");
        House.due("ended", "said(0)", house.it.said(0), 2);
    }

    /** "The TAPE's text becomes the program; no run": what was is gone, whatever comes. */
    private static void programThatWent() {
        House house = House.ran(TEXT);
        House.due("went", "read", house.tape("main = )").it.read(), 2 + 16);
        nothing("went", house);
        House other = House.ran(TEXT);
        House.due("went", "read", other.tape("x = 1\nmain = 4").it.read(), 0);
        House.due("other", "count(1)", other.it.count(1), 2);
        for (int what = 5; what <= 12; what++) {
            House.due("other", "count(" + what + ")", other.it.count(what), 0);
        }
        House.due("other", "shown(0)", other.it.shown(0), -1);
        House.due("other", "said(0)", other.it.said(0), 0);
        House.due("other", "sign(0)", other.sign(0), "x :: Int");
        House.due("other", "strict(0, 0)", other.it.strict(0, 0), -1);
        House.due("other", "count(3)", other.it.count(3), 0);
    }

    /** Each what by itself: a text in which all are different. */
    private static void countsOfWhat() {
        House house = House.of("data A = B | C Int | D\ndata E = F\nf x = g x\ng y = f y\nh a b = \\c -> case a of (d, _) -> let e = d in e\n"
                + "main = 1");
        House.due("whats", "count(0)", house.it.count(0), 48);
        House.due("whats", "count(1)", house.it.count(1), 4);
        House.due("whats", "count(2)", house.it.count(2), 11);
        House.due("whats", "count(3)", house.it.count(3), 4);
        House.due("whats", "count(4)", house.it.count(4), 3);
    }

    /** Programs with the least of everything. */
    private static void countsOfProgram() {
        House least = House.of("main=1");
        int[] want = {3, 1, 1, 0, 1, 0};
        for (int what = 0; what < want.length; what++) {
            House.due("least", "count(" + what + ")", least.it.count(what), want[what]);
        }
        House.due("comment", "count(0)", House.of("-- a b c\nmain=1 -- d e").it.count(0), 3);
        House.due("_", "count(2)", House.of("main = case (1, 2) of (_, _) -> 1").it.count(2), 1);
        House.due("twice", "count(2)", House.of("main = case (1, 2) of (a, b) -> case 1 of a -> 1").it.count(2), 4);
        House.due("DATA", "count(2)", House.of("data A a b = A a b\nmain = 1").it.count(2), 1);
    }

    private static void made(String text, int made, int got) {
        House house = House.ran(text);
        House.due(text, "count(7)", house.it.count(7), made);
        House.due(text, "count(8)", house.it.count(8), got);
    }

    /** "7 THUNKS made (but the PROGRAM's DEFINITIONS' own, ..; those in fields of its VALUES count)". */
    private static void thunksMade() {
        House fields = House.begun("a = [1 + 1, 2]\nb = (a, (3 + 3, 4 + 4))\nc = 1 + 1\nmain = 1");
        House.due("fields", "count(7)", fields.it.count(7), 3);
        made("main = 1", 0, 0);
        made("a = 1 + 1\nmain = 1", 0, 0);
        made("a = 1 + 1\nmain = a", 0, 2);
        made("a = [1 + 1]\nmain = 1", 1, 0);
        made("f x = 1\nmain = f (1 + 1)", 1, 1);
        made("f x = 1\nmain = f 1", 0, 1);
        made("f x = x\nmain = f (1 + 1)", 1, 2);
        made("main = let x = 1 + 1 in 2", 1, 1);
        made("main = let x = 1; y = True; z = []; f a = a in 2", 0, 1);
        made("main = let x = 1; y = x in 2", 1, 1);
        made("f x y = x\nmain = let x = 1 in f x x", 0, 1);
        made("f x = x\nmain = f (\\y -> y) 2", 0, 1);
        made("f x = 1\nmain = f (f 1)", 1, 1);
        made("data P = P Int Int\nf x = 1\nmain = f (P 1)", 1, 1);
        made("data P = P Int Int\nf x = 1\nmain = f (P 1 2)", 0, 1);
        made("data P = P Int Int\nf x = 1\nmain = f P", 0, 1);
    }

    /** "8 THUNKS that got a value (the PROGRAM's DEFINITIONS' own, too)": not those that are HELD at the end. */
    private static void thunksThatGotAValue() {
        made("main = let x = 1 + 1 in x + x", 1, 2);
        made("x = 1 + 1\nmain = x + x", 0, 2);
        made("x = 1 / 0\nmain = x", 0, 0);
        made("x = 1 + 1\nmain = x / 0", 0, 1);
        made("main = main", 0, 0);
        made("main = [1 + 1, 2 + 2]", 2, 2);
        made("main = case [1 + 1, 2 + 2] of x : _ -> x", 2, 2);
    }

    /** One object knows nothing of another. */
    private static void twoObjects() {
        House one = House.begun("x = 1 + 1\nmain = [x, 3]");
        House other = House.begun("y = 5\nmain = y * y");
        for (int n = 0; n < 12; n++) {
            one.run(1);
            other.run(1);
        }
        House.due("one", "text", one.text(), "[2,3]");
        House.due("other", "text", other.text(), "25");
        House.due("one", "sign(0)", one.sign(0), "x :: Int");
        House.due("other", "sign(0)", other.sign(0), "y :: Int");
    }

    /** Programs that differ in all that can be told of one, and texts with a fault of each kind. */
    private static final String[] TEXTS = {
        "main = 7",
        "data T a = L | N (T a) a (T a)\ng n = if n == 0 then L else N (g (n - 1)) n (g (n - 1))\nmain = g 2",
        "x = [1 + 1, 2]\nmain = case x of y : ys -> say y (y, ys)\nk a b c = b",
        "main = let a = 1 + b; b = 2; f x = a + x in [f 1, f a]\ni a = a\nj b = \\c -> b + c",
        "up n = up (n + 1)\nh a b = a && b\nmain = say 3 (up 0)",
        "data P a b = P a b | Q (b -> a)\nf g = Q g\np = P 1\nmain = (p True, (p [], f p))",
        "f n = 1 + f n\ng x y = f x\nmain = g 1 2 : []",
        "main = [[], [1, 2, 3], 4 : []]\nodd n = n /= 0 && even (n - 1)\neven n = n == 0 || odd (n - 1)",
        "a = 1 + True\nmain = #", "f x = (((case x of y : z -> )", " f x y = x\ng", "main = let x = 1; x = y in z",
        "data T a = C b\nmain = T", "data T a = C T\nmain = case C of C a b c -> 1", "f x = x x\nmain = f f",
        "main = [1, 2, 3, 4, 5, 6, 7, 8, 9, 10, 11, 12, 13]"};
    private static final int GOOD = 8;

    /** One program behind another in one object, whatever was there: all is as in a new one. */
    private static void manyPrograms() {
        for (String first : TEXTS) {
            for (int k = 0; k < TEXTS.length; k++) {
                House used = new House().tape(first);
                if (used.it.read() == 0) {
                    used.begin();
                    used.run(25);
                    used.sign(0);
                }
                House fresh = new House().tape(TEXTS[k]);
                House.due(TEXTS[k], "read() behind " + first, used.tape(TEXTS[k]).it.read(), fresh.it.read());
                House.due(TEXTS[k], "begin() behind " + first, used.begin(), k < GOOD ? "begun" : "state");
                fresh.begin();
                for (int n = 0; n < 5; n++) {
                    House.due(TEXTS[k], "all behind " + first + ", " + n, used.all(), fresh.all());
                    House.due(TEXTS[k], "run behind " + first + ", " + n, used.run(6 + n), fresh.run(6 + n));
                }
                House.due(TEXTS[k], "sign behind " + first, used.sign(1), fresh.sign(1));
                House.due(TEXTS[k], "strict behind " + first, used.stricts(1), fresh.stricts(1));
            }
        }
    }
}
