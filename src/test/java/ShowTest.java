/** Promises 11 to 13: global, shown, said. */
public final class ShowTest {
    public static void main(String[] args) {
        shows();
        showsInOrder();
        longText();
        output();
        globals();
        globalsThatRun();
        House.end();
    }

    private static void shows() {
        House.shows("main = 0 - 12", "-12");
        House.shows("main = []", "[]");
        House.shows("main = [[], [1], [2, 3]]", "[[],[1],[2,3]]");
        House.shows("main = (1, (True, []))", "(1,(True,[]))");
        House.shows("data T a = L | N (T a) a (T a)\nmain = N L 5 (N L 6 L)", "(N L 5 (N L 6 L))");
        House.shows("data T = Abc12'x Int\nmain = [Abc12'x (1 + 1)]", "[(Abc12'x 2)]");
        House.shows("data F a = F (a -> a) Int\nf x = x\nmain = F f 1", "(F fun 1)");
        House.shows("data F a b = F a b\nmain = [F 1]", "[fun]");
        House.shows("data F a b = F a b\nmain = (F, [])", "(fun,[])");
        House.shows("main = (\\x -> x, say)", "(fun,fun)");
        House.shows("main = 1 : 2 : [3]", "[1,2,3]");
    }

    private static void showsInOrder() {
        House house = House.begun("main = (say 1 5, [say 2 6])");
        String[] texts = {"", "(", "(", "(", "(", "(", "(5,", "(5,[", "(5,[", "(5,[", "(5,[", "(5,[", "(5,[6", "(5,[6])"};
        int[] said = {0, 0, 0, 0, 0, 1, 1, 1, 1, 1, 1, 2, 2, 2};
        for (int n = 0; n < texts.length; n++) {
            String where = "behind " + n + " STEPS";
            House.due(where, "text", house.text(), texts[n]);
            House.due(where, "said", house.it.count(12), said[n]);
            if (house.it.count(5) == 1) {
                house.it.run(1);
            }
        }
        House.due("in order", "count(5)", house.it.count(5), 2);
        // A fault at the end leaves what was shown.
        House zero = House.ran("main = [1, say 7 2, 3 / 0, 4]");
        House.due("zero", "text", zero.text(), "[1,2,");
        House.due("zero", "said(0)", zero.it.said(0), 7);
        House pair = House.ran("data P = P Int Int\nmain = P 1 (1 / 0)");
        House.due("pair", "text", pair.text(), "(P 1 ");
        House two = House.ran("main = (1, 1 / 0)");
        House.due("two", "text", two.text(), "(1,");
    }

    private static void longText() {
        House house = House.begun("up n = n : up (n + 1)\nmain = up 0");
        for (int n = 0; n < 5; n++) {
            house.it.run(2000);
        }
        House.due("long", "count(5)", house.it.count(5), 1);
        House.due("long", "count(11)", house.it.count(11), 1000);
        House.due("long", "shown(0)", house.it.shown(0), '[');
        House.due("long", "shown(999)", house.it.shown(999) > 0 ? 1 : 0, 1);
        House.due("long", "shown(1000)", house.it.shown(1000), -1);
        House.due("long", "shown(-1)", house.it.shown(-1), -1);
        House.due("long", "shown(MAX)", house.it.shown(Integer.MAX_VALUE), -1);
        House.due("long", "shown(MIN)", house.it.shown(Integer.MIN_VALUE), -1);
        // 0 to 9 and commas: 21 signs; 90 with two digits: 270; then four each.
        House.due("long", "shown(291)", house.it.shown(291), '1');
        House.due("long", "shown(294)", house.it.shown(294), ',');
    }

    private static void output() {
        House house = House.ran("loop n = if n == 0 then 0 else say n (loop (n - 1))\nmain = loop 600");
        House.due("output", "count(5)", house.it.count(5), 2);
        House.due("output", "count(12)", house.it.count(12), 500);
        House.due("output", "said(0)", house.it.said(0), 600);
        House.due("output", "said(499)", house.it.said(499), 101);
        House.due("output", "said(500)", house.it.said(500), 0);
        House.due("output", "said(-1)", house.it.said(-1), 0);
        House.due("output", "said(MIN)", house.it.said(Integer.MIN_VALUE), 0);
        house.it.begin();
        House.due("output", "anew", house.it.said(0), 0);
        House minus = House.ran("main = say (0 - 5) (say 2147483647 1)");
        House.due("minus", "said(0)", minus.it.said(0), -5);
        House.due("minus", "said(1)", minus.it.said(1), 2147483647);
        House.due("minus", "said(2)", minus.it.said(2), 0);
        // What is said is said once, and only if it is asked for.
        House once = House.ran("x = say 1 2\ny = say 3 4\nmain = x + x");
        House.due("once", "count(12)", once.it.count(12), 1);
    }

    private static void global(House house, int i, int state, int kind, int which) {
        House.due("global " + i, "what 0", house.it.global(i, 0), state);
        House.due("global " + i, "what 1", house.it.global(i, 1), kind);
        House.due("global " + i, "what 2", house.it.global(i, 2), which);
        House.due("global " + i, "what 3", house.it.global(i, 3), -1);
        House.due("global " + i, "what -1", house.it.global(i, -1), -1);
    }

    private static void globals() {
        String text = "data D = A | B Int Int\na = 1 + 1\nb = [a]\nc x y = x\nd = c 1\ne = \\x y z -> x\nf = 5\n"
                + "g = True\nh = B\ni = say\nj = (1, 2)\nk = B 1 2\nl = []\nm = A\nn = x\nx = 0 - 3\n"
                + "main = case d 2 of _ -> case i of _ -> case n of _ -> case B 1 of _ -> 6\n";
        House house = House.of(text);
        House.due("no run", "global(0, 0)", house.it.global(0, 0), -1);
        house.it.begin();
        int[][] want = {{0, -1, -1}, {2, 1, 3}, {2, 2, 2}, {0, -1, -1}, {2, 2, 3}, {2, 0, 5}, {2, 1, 1}, {2, 2, 2},
            {0, -1, -1}, {2, 1, 4}, {2, 1, 6}, {2, 1, 2}, {2, 1, 5}, {0, -1, -1}, {0, -1, -1}, {0, -1, -1}};
        for (int i = 0; i < want.length; i++) {
            global(house, i, want[i][0], want[i][1], want[i][2]);
        }
        house.it.run(2000);
        House.due("globals", "text", house.text(), "6");
        global(house, 0, 0, -1, -1);
        global(house, 3, 2, 2, 1);
        global(house, 8, 2, 2, 2);
        global(house, 13, 2, 0, -3);
        global(house, 14, 2, 0, -3);
        global(house, 15, 2, 0, 6);
        House.due("globals", "global(16, 0)", house.it.global(16, 0), -1);
        House.due("globals", "global(-1, 0)", house.it.global(-1, 0), -1);
        House.due("globals", "global(MIN, 0)", house.it.global(Integer.MIN_VALUE, 0), -1);
    }

    private static void globalsThatRun() {
        House house = House.begun("x = 1 + y\ny = 2 + 3\nmain = x");
        house.it.run(1);
        global(house, 2, 1, -1, -1);
        global(house, 0, 0, -1, -1);
        house.it.run(4);
        global(house, 0, 1, -1, -1);
        global(house, 1, 1, -1, -1);
        house.it.run(3);
        global(house, 0, 2, 0, 6);
        global(house, 1, 2, 0, 5);
        global(house, 2, 2, 0, 6);
        House bools = House.ran("x = False\ny = 1 < 1\nmain = y");
        global(bools, 0, 2, 1, 0);
        global(bools, 1, 2, 1, 0);
        House loop = House.ran("x = y\ny = x\nmain = x");
        global(loop, 0, 1, -1, -1);
        global(loop, 1, 1, -1, -1);
        global(loop, 2, 1, -1, -1);
    }
}
