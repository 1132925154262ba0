/** The edges of SHOWING and of OUTPUT, and of promises 11 to 13: global, shown, said. */
public final class ShowEdgesTest {
    public static void main(String[] args) {
        numbers();
        functions();
        constructors();
        lists();
        pairs();
        fieldByField();
        restOfList();
        mostSigns();
        signsLost();
        signPlaces();
        mostOutput();
        outputPlaces();
        outputInOrder();
        globalStates();
        globalNumbers();
        globalConstructors();
        globalFunctions();
        globalPlaces();
        House.end();
    }

    /** "a number in digits (- ahead)". */
    private static void numbers() {
        House.shows("main = 0", "0");
        House.shows("main = 0000", "0");
        House.shows("main = 9", "9");
        House.shows("main = 10", "10");
        House.shows("main = 100", "100");
        House.shows("main = 1000000000", "1000000000");
        House.shows("main = 999999999", "999999999");
        House.shows("main = 2147483647", "2147483647");
        House.shows("main = 0 - 1", "-1");
        House.shows("main = 0 - 10", "-10");
        House.shows("main = 0 - 2147483647", "-2147483647");
        House.shows("main = 0 - 2147483647 - 1", "-2147483648");
        House.shows("main = 5 - 5", "0");
    }

    /** "a FUNCTION as fun". */
    private static void functions() {
        House.shows("data P = P Int Int\nf x = x\nmain = [(\\x -> x, 1)]", "[(fun,1)]");
        House.shows("f x = x\nmain = [f]", "[fun]");
        House.shows("f x y = x\nmain = [f 1]", "[fun]");
        House.shows("main = [say]", "[fun]");
        House.shows("main = [say 1]", "[fun]");
        House.shows("data P = P Int Int\nmain = [P]", "[fun]");
        House.shows("data P = P Int Int\nmain = [P 1]", "[fun]");
        House.shows("main = let f x = x in (f, \\x -> f x)", "(fun,fun)");
    }

    /** "a constructor without fields its name, one with fields ( its name, a blank and each field, and )". */
    private static void constructors() {
        String data = "data T a = T | T1 a | T2 a a | T6 a a a a a a\n";
        House.shows(data + "main = T", "T");
        House.shows(data + "main = T1 1", "(T1 1)");
        House.shows(data + "main = T2 1 2", "(T2 1 2)");
        House.shows(data + "main = T6 1 2 3 4 5 6", "(T6 1 2 3 4 5 6)");
        House.shows(data + "main = T1 T", "(T1 T)");
        House.shows(data + "main = T1 (T1 1)", "(T1 (T1 1))");
        House.shows(data + "main = T2 (T1 1) (T1 5)", "(T2 (T1 1) (T1 5))");
        House.shows(data + "main = T1 [1]", "(T1 [1])");
        House.shows(data + "main = T1 (1, 2)", "(T1 (1,2))");
        House.shows(data + "main = T1 (0 - 5)", "(T1 -5)");
        House.shows("main = False", "False");
        House.shows("main = True", "True");
        House.shows("data T = Abcdefghijkl Int\nmain = Abcdefghijkl 1", "(Abcdefghijkl 1)");
    }

    /** "a list [ with , between ] ([] without any)". */
    private static void lists() {
        House.shows("main = []", "[]");
        House.shows("main = [1]", "[1]");
        House.shows("main = [1, 2]", "[1,2]");
        House.shows("main = 1 : []", "[1]");
        House.shows("main = [[]]", "[[]]");
        House.shows("main = [[], []]", "[[],[]]");
        House.shows("main = [[1], [], [2, 3]]", "[[1],[],[2,3]]");
        House.shows("main = [True, False]", "[True,False]");
        House.shows("rep n = if n == 0 then [] else 7 : rep (n - 1)\nmain = rep 40", "[" + "7,".repeat(39) + "7]");
    }

    /** "a pair ( , ) without blanks". */
    private static void pairs() {
        House.shows("main = (1, 2)", "(1,2)");
        House.shows("main = ((1, 2), (3, 4))", "((1,2),(3,4))");
        House.shows("main = ([], True)", "([],True)");
        House.shows("data T = T Int\nmain = (T 1, 2)", "((T 1),2)");
    }

    private static void behind(String text, String[] shown) {
        House house = House.begun(text);
        for (int n = 0; n < shown.length; n++) {
            House.due(text, "text behind " + n, house.text(), shown[n]);
            House.due(text, "count(11) behind " + n, house.it.count(11), shown[n].length());
            House.due(text, "count(5) behind " + n, house.it.count(5), n < shown.length - 1 ? 1 : 2);
            house.run(1);
        }
    }

    /** "Each field is come to in its place, when all ahead of it is shown: that is a STEP". */
    private static void fieldByField() {
        behind("data T = T Int Int\nmain = T 1 2", new String[] {"", "(T ", "(T 1 ", "(T 1 2)"});
        behind("main = (1, 2)", new String[] {"", "(", "(1,", "(1,2)"});
        behind("main = ((1, 2), 3)", new String[] {"", "(", "((", "((1,", "((1,2),", "((1,2),3)"});
        behind("main = True", new String[] {"", "True"});
        // What a field is worked out to ends it, not what WAITS behind it.
        House zero = House.ran("data T = T Int Int\nmain = T (1 / 0) 2");
        House.due("zero", "text", zero.text(), "(T ");
        House second = House.ran("data T = T Int Int\nmain = T 1 (2 / 0)");
        House.due("second", "text", second.text(), "(T 1 ");
        House pair = House.ran("main = (1, 2 / 0)");
        House.due("pair", "text", pair.text(), "(1,");
    }

    /** "A list's [ and first field are shown as it comes; its rest is come to (a STEP) behind that". */
    private static void restOfList() {
        behind("main = [1]", new String[] {"", "[", "[1", "[1]"});
        behind("main = [1, 2]", new String[] {"", "[", "[1", "[1,", "[1,2", "[1,2]"});
        behind("main = []", new String[] {"", "[]"});
        behind("main = [[]]", new String[] {"", "[", "[[]", "[[]]"});
        House rest = House.ran("main = 1 : (case 1 of 2 -> [])");
        House.due("rest", "text", rest.text(), "[1");
        House.due("rest", "count(5)", rest.it.count(5), 4);
        House first = House.ran("main = 1 : (2 / 0) : []");
        House.due("first", "text", first.text(), "[1,");
    }

    /** A list of n digits, the first with one more or not: 2 n + 1 signs, or 2 n + 2. */
    private static House listed(int n, int first) {
        return House.ran("rep n = if n == 0 then [] else 7 : rep (n - 1)\nmain = " + first + " : rep " + (n - 1));
    }

    /** "TEXT, up to 1,000 signs, is what is shown; what comes then is lost". */
    private static void mostSigns() {
        House less = listed(499, 1);
        House.due("999", "count(11)", less.it.count(11), 999);
        House.due("999", "shown(998)", less.it.shown(998), ']');
        House.due("999", "shown(999)", less.it.shown(999), -1);
        House same = listed(499, 11);
        House.due("1000", "count(11)", same.it.count(11), 1000);
        House.due("1000", "shown(998)", same.it.shown(998), '7');
        House.due("1000", "shown(999)", same.it.shown(999), ']');
        House.due("1000", "shown(1000)", same.it.shown(1000), -1);
        House more = listed(500, 1);
        House.due("1001", "count(11)", more.it.count(11), 1000);
        House.due("1001", "shown(999)", more.it.shown(999), '7');
        House.due("1001", "shown(1000)", more.it.shown(1000), -1);
        for (House house : new House[] {less, same, more}) {
            House.due("most", "count(5)", house.it.count(5), 2);
            House.due("most", "shown(0)", house.it.shown(0), '[');
        }
    }

    /** A number, a name or fun of which there is room for a part alone. */
    private static void signsLost() {
        String rep = "data T = Abcdef\nrep n = if n == 0 then [] else 7 : rep (n - 1)\nmain = (rep 496, ";
        // ( [ 7, .. 7 ] , are 995 signs; then five of what follows, and what WAITS is lost.
        House number = House.ran(rep + "123456789)");
        House.due("number", "count(11)", number.it.count(11), 1000);
        House.due("number", "shown(995)", number.it.shown(995), '1');
        House.due("number", "shown(999)", number.it.shown(999), '5');
        House name = House.ran(rep + "Abcdef)");
        House.due("name", "shown(999)", name.it.shown(999), 'e');
        House.due("name", "count(5)", name.it.count(5), 2);
        House fun = House.ran(rep + "(0, \\x -> x))");
        House.due("fun", "shown(997)", fun.it.shown(997), ',');
        House.due("fun", "shown(998)", fun.it.shown(998), 'f');
        House.due("fun", "shown(999)", fun.it.shown(999), 'u');
        House five = House.ran(rep + "1234)");
        House.due("five", "shown(998)", five.it.shown(998), '4');
        House.due("five", "shown(999)", five.it.shown(999), ')');
        House four = House.ran(rep + "123)");
        House.due("four", "count(11)", four.it.count(11), 999);
    }

    /** "Sign k of the TEXT. NONE if there is none". */
    private static void signPlaces() {
        House house = House.of("main = [12]");
        House.due("no run", "shown(0)", house.it.shown(0), -1);
        house.begin();
        House.due("no sign", "shown(0)", house.it.shown(0), -1);
        house.run(2000);
        int[] want = {-1, '[', '1', '2', ']', -1, -1};
        for (int k = -1; k <= 5; k++) {
            House.due("places", "shown(" + k + ")", house.it.shown(k), want[k + 1]);
        }
        House.due("places", "shown(MIN)", house.it.shown(Integer.MIN_VALUE), -1);
        House.due("places", "shown(MAX)", house.it.shown(Integer.MAX_VALUE), -1);
        house.begin();
        House.due("anew", "shown(0)", house.it.shown(0), -1);
    }

    /** "(500 at most, what is more is lost)". */
    private static void mostOutput() {
        for (int n = 499; n <= 502; n++) {
            House house = House.ran("loop n = if n == 0 then 0 else say n (loop (n - 1))\nmain = loop " + n);
            House.due("output", "count(5) of " + n, house.it.count(5), 2);
            House.due("output", "count(12) of " + n, house.it.count(12), Math.min(n, 500));
            House.due("output", "said(0) of " + n, house.it.said(0), n);
            House.due("output", "said(498) of " + n, house.it.said(498), n - 498);
            House.due("output", "said(499) of " + n, house.it.said(499), n < 500 ? 0 : n - 499);
            House.due("output", "said(500) of " + n, house.it.said(500), 0);
            House.due("output", "said(501) of " + n, house.it.said(501), 0);
        }
    }

    /** "Number k of OUTPUT .. 0 if there is none". */
    private static void outputPlaces() {
        House house = House.of("main = say 5 (say (0 - 6) 7)");
        House.due("no run", "said(0)", house.it.said(0), 0);
        house.begin();
        House.due("none yet", "said(0)", house.it.said(0), 0);
        house.run(2000);
        int[] want = {0, 5, -6, 0, 0};
        for (int k = -1; k <= 3; k++) {
            House.due("places", "said(" + k + ")", house.it.said(k), want[k + 1]);
        }
        House.due("places", "said(MIN)", house.it.said(Integer.MIN_VALUE), 0);
        House.due("places", "said(MAX)", house.it.said(Integer.MAX_VALUE), 0);
        House.due("places", "count(12)", house.it.count(12), 2);
        house.begin();
        House.due("anew", "count(12)", house.it.count(12), 0);
        House.due("anew", "said(0)", house.it.said(0), 0);
    }

    /** "the first ARGUMENT is worked out as a variable is, a STEP, and comes to OUTPUT; then the second one likewise". */
    private static void outputInOrder() {
        House house = House.begun("main = say 5 (say 6 7)");
        // main, the CALL, say, 5; the THUNK, the CALL, say, 6, 7.
        int[] want = {0, 0, 0, 0, 1, 1, 1, 1, 2, 2};
        for (int n = 0; n < want.length; n++) {
            House.due("in order", "count(12) behind " + n, house.it.count(12), want[n]);
            House.due("in order", "count(5) behind " + n, house.it.count(5), n < 9 ? 1 : 2);
            house.run(1);
        }
        House.due("in order", "text", house.text(), "7");
        House zero = House.ran("main = say (1 / 0) (say 6 7)");
        House.due("zero", "count(12)", zero.it.count(12), 0);
        House nested = House.ran("main = say (say 1 2) 3");
        House.due("nested", "said(0)", nested.it.said(0), 1);
        House.due("nested", "said(1)", nested.it.said(1), 2);
        House one = House.ran("main = [say 1]");
        House.due("one", "count(12)", one.it.count(12), 0);
    }

    private static void global(House house, int i, int state, int kind, int which) {
        House.due("global", i + ", 0", house.it.global(i, 0), state);
        House.due("global", i + ", 1", house.it.global(i, 1), kind);
        House.due("global", i + ", 2", house.it.global(i, 2), which);
    }

    /** "0 a THUNK that was not asked for, 1 HELD, 2 a VALUE". */
    private static void globalStates() {
        House house = House.begun("a = 1 + b\nb = 2\nc = 3 + 4\nmain = a");
        int[][] states = {{0, 0}, {0, 1}, {1, 1}, {1, 1}, {1, 1}, {2, 2}};
        for (int n = 0; n < states.length; n++) {
            House.due("states", "a behind " + n, house.it.global(0, 0), states[n][0]);
            House.due("states", "main behind " + n, house.it.global(3, 0), states[n][1]);
            House.due("states", "b behind " + n, house.it.global(1, 0), 2);
            House.due("states", "c behind " + n, house.it.global(2, 0), 0);
            house.run(1);
        }
        global(house, 0, 2, 0, 3);
        global(house, 1, 2, 0, 2);
        global(house, 2, 0, -1, -1);
        global(house, 3, 2, 0, 3);
    }

    private static void globalNumbers() {
        House house = House.ran("a = 0\nb = 2147483647\nc = 0 - 1\nd = 0 - 2147483647 - 1\nmain = c + d");
        global(house, 0, 2, 0, 0);
        global(house, 1, 2, 0, 2147483647);
        global(house, 2, 2, 0, -1);
        global(house, 3, 2, 0, -2147483648);
        global(house, 4, 2, 0, 2147483647);
    }

    /** "of a constructor its number (0 False, 1 True, 2 [ ], 3 :, 4 ( , ), then those of DATA as they come)". */
    private static void globalConstructors() {
        House house = House.begun("data A = A0 | A1 Int\na = False\nb = True\nc = []\nd = [1]\ne = 1 : []\nf = (1, 2)\ng = A0\n"
                + "h = A1 5\ni = B0\nmain = 1 < 2\ndata B = B0");
        int[] which = {0, 1, 2, 3, 3, 4, 5, 6, 7};
        for (int i = 0; i < which.length; i++) {
            global(house, i, 2, 1, which[i]);
        }
        global(house, 9, 0, -1, -1);
        house.run(2000);
        global(house, 9, 2, 1, 1);
    }

    /** "of a FUNCTION how many ARGUMENTS it wants still". */
    private static void globalFunctions() {
        House house = House.begun("data A = A Int Int Int\na x = x\nb x y z = x\nc = \\x y -> x\nd = A\ne = say\nf = b 1\ng = b 1 2\n"
                + "h = A 1 2\ni = say 1\nj = c 1\nk = f 2\n"
                + "main = case (e, (f, g)) of _ -> case e of _ -> case g of _ -> case h of _ -> case i of _ -> "
                + "case j of _ -> case k of _ -> 1");
        int[] before = {1, 3, 2, 3};
        for (int i = 0; i < before.length; i++) {
            global(house, i, 2, 2, before[i]);
        }
        for (int i = 4; i <= 10; i++) {
            global(house, i, 0, -1, -1);
        }
        house.run(2000);
        int[] behind = {1, 3, 2, 3, 2, 2, 1, 1, 1, 1, 1};
        for (int i = 0; i < behind.length; i++) {
            global(house, i, 2, 2, behind[i]);
        }
    }

    /** "NONE if there is none such (1, 2: of a THUNK), or no run". */
    private static void globalPlaces() {
        House house = House.of("a = 1\nmain = 2");
        House.due("no run", "global(0, 0)", house.it.global(0, 0), -1);
        house.begin();
        for (int i = -1; i <= 2; i++) {
            for (int what = -1; what <= 3; what++) {
                boolean there = i >= 0 && i <= 1 && what >= 0 && what <= 2;
                int want = !there ? -1 : what == 0 ? 2 : what == 1 ? 0 : i + 1;
                House.due("places", "global(" + i + ", " + what + ")", house.it.global(i, what), want);
            }
        }
        int[] far = {Integer.MIN_VALUE, Integer.MAX_VALUE};
        for (int it : far) {
            House.due("places", "global(" + it + ", 0)", house.it.global(it, 0), -1);
            House.due("places", "global(0, " + it + ")", house.it.global(0, it), -1);
        }
        // It is told still when the run has ended, and not when a text was read.
        house.run(2000);
        House.due("ended", "global(0, 2)", house.it.global(0, 2), 1);
        house.tape("a = 3\nmain = 4").it.read();
        House.due("another", "global(0, 0)", house.it.global(0, 0), -1);
        house.begin();
        House.due("another", "global(0, 2)", house.it.global(0, 2), 3);
        house.tape("main = )").it.read();
        House.due("fault", "global(0, 0)", house.it.global(0, 0), -1);
    }
}
