/** Sentences that meet: faults beside faults, limits in the middle of something, runs that are disturbed or broken off. */
public final class MeetingsTest {
    public static void main(String[] args) {
        mendedOneByOne();
        typesMendedOneByOne();
        tapeDuringRun();
        readDuringRun();
        beginDuringRun();
        bothRowsFull();
        endsWhileShown();
        greatestProgram();
        greatestTexts();
        House.end();
    }

    /** Mends a piece of a text; what is told of it then is a fault of a kind in a line. */
    private static String mend(String text, String wrong, String right, int kind, int line) {
        House.due(text, "has " + wrong, text.contains(wrong) ? 1 : 0, 1);
        String mended = text.replace(wrong, right);
        House.fault(mended, kind, line);
        return mended;
    }

    /** "First the text, token by token", "Then the names", "Then 8, with line 0", "Then the types", "Last main's type". */
    private static void mendedOneByOne() {
        String things = "1,1,1,1,1,1,1,1,1,1,1,1";
        String deep = "(".repeat(40) + "1" + ")".repeat(40);
        String text = " data A = B | C\n x = 1 1\n y = [" + things + ",1]\n f a = case a of B z -> q\n u = )\n v = #\n t = "
                + deep + "\nw\n main = x\n data A = D";
        House.fault(text, 2, 5);
        text = mend(text, "u = )", "u = 1", 1, 6);
        text = mend(text, "#", "1", 8, 7);
        text = mend(text, deep, "1", 3, 8);
        text = mend(text, "\nw", "\n w = 1", 6, 4);
        text = mend(text, "B z", "B", 5, 4);
        text = mend(text, "q\n", "1\n", 4, 10);
        text = mend(text, "data A = D", "data E = D", 8, 0);
        text = mend(text, things + ",1", things, 7, 2);
        text = mend(text, "x = 1 1", "x = \\b -> b", 7, 9);
        text = mend(text, "main = x", "main = x 7", 0, 0);
        House.shows(text, "7");
    }

    private static String pairs(int n) {
        return "(1,".repeat(n) + "1" + ")".repeat(n);
    }

    /** "by the order told in 2": the DEFINITIONS of a GROUP, then their sizes, then the next GROUP; main's type last. */
    private static void typesMendedOneByOne() {
        String wide = pairs(19);
        String text = "main = two True\ntwo n = (n + True, three n)\nthree n = if n then " + wide + " else case two n of _ -> "
                + wide + "\nlast = 1 + True";
        House.fault(text, 7, 2);
        text = mend(text, "n + True", "n + 1", 7, 3);
        text = mend(text, "if n then", "if n == 0 then", 8, 2);
        text = mend(text, "(n + 1, three n)", "case three n of _ -> n", 8, 3);
        // 38 and those of the FUNCTION and the Int: 40.
        text = mend(text, wide, "[" + pairs(18) + "]", 7, 1);
        text = mend(text, "two True", "two", 7, 4);
        text = mend(text, "1 + True", "1 + 1", 7, 1);
        mend(text, "main = two", "main = two 1", 0, 0);
    }

    private static final String BUSY = "data T = L | N T Int T\ngrow n = if n == 0 then L else N (grow (n - 1)) n (grow (n - 1))\n"
            + "xs = 1 : say 4 (let ys = 2 : ys in ys)\nmain = (grow 2, (case xs of a : b -> (a, b), say 5 (\\z -> z)))";

    /** feed and back have nothing to do with the program and its run, whatever they answer. */
    private static void tapeDuringRun() {
        House calm = House.begun(BUSY);
        House disturbed = House.begun(BUSY);
        for (int n = 0; n < 9; n++) {
            House.due("disturbed", "feed", disturbed.it.feed(n, -n, 0x6d61696e, 0x203d2029, 7), 20);
            House.due("disturbed", "back(21)", disturbed.it.back(21), -1);
            House.due("disturbed", "back(5)", disturbed.it.back(5), 15);
            House.due("disturbed", "all, " + n, disturbed.all(), calm.all());
            House.due("disturbed", "run, " + n, disturbed.run(9), calm.run(9));
            House.due("disturbed", "back(15)", disturbed.it.back(15), 0);
        }
        House.due("disturbed", "count(5)", disturbed.it.count(5), 1);
        House.due("disturbed", "text", disturbed.text(), calm.text());
    }

    /** "The TAPE's text becomes the program; no run": an empty TAPE's, too, wherever the run is. */
    private static void readDuringRun() {
        String none = new House().all();
        for (int n = 0; n <= 60; n += 4) {
            House house = House.begun(BUSY);
            house.run(n);
            House.due("STEP " + n, "read()", house.it.read(), 5 + 16);
            House.due("STEP " + n, "all", house.all(), none);
            House.due("STEP " + n, "run(1)", house.run(1), "state");
            House.due("STEP " + n, "begin()", house.begin(), "state");
        }
    }

    private static void beginDuringRun() {
        String begun = House.begun(BUSY).all();
        House house = House.begun(BUSY);
        for (int n = 1; n <= 60; n += 13) {
            house.run(n);
            House.due("STEP " + n, "begin()", house.begin(), "begun");
            House.due("STEP " + n, "all", house.all(), begun);
        }
    }

    /** OUTPUT and TEXT are full, one in the middle of the other: the run goes on to its end all the same. */
    private static void bothRowsFull() {
        House house = House.ran("up n = if n == 600 then [] else say n (say (0 - n) n) : up (n + 1)\nmain = up 0");
        StringBuilder all = new StringBuilder("[0");
        for (int n = 1; n < 600; n++) {
            all.append(',').append(n);
        }
        House.due("full", "count(5)", house.it.count(5), 2);
        House.due("full", "count(11)", house.it.count(11), 1000);
        House.due("full", "text", house.text(), all.substring(0, 1000));
        House.due("full", "count(12)", house.it.count(12), 500);
        House.due("full", "said(498)", house.it.said(498), 249);
        House.due("full", "said(499)", house.it.said(499), -249);
        House.due("full", "said(500)", house.it.said(500), 0);
    }

    /** Each end in the middle of SHOWING and of a say: what was shown and said stays. */
    private static void endsWhileShown() {
        String[] ends = {"loop", "(case 1 of 2 -> 3)", "(1 / 0)", "(up 0)", "(deep 0)"};
        for (int k = 0; k < ends.length; k++) {
            House house = House.ran("loop = loop + 1\nup n = up (n + 1)\ndeep n = 1 + deep n\ndata P = P Int Int\n"
                    + "main = [P 1 2, P 3 (say 5 (say " + ends[k] + " 6)), P 7 8]");
            House.due(ends[k], "count(5)", house.it.count(5), 3 + k);
            House.due(ends[k], "text", house.text(), "[(P 1 2),(P 3 ");
            House.due(ends[k], "count(12)", house.it.count(12), 1);
            House.due(ends[k], "said(0)", house.it.said(0), 5);
            House.due(ends[k], "count(9)", house.it.count(9), 0);
            House.due(ends[k], "count(10)", house.it.count(10), 0);
            House.due(ends[k], "global(3, 2)", house.it.global(3, 2), 3);
            House.due(ends[k], "run(0)", house.run(0), "state");
        }
    }

    private static char letter(int k) {
        return (char) (k < 26 ? 'a' + k : k < 52 ? 'A' + k - 26 : '0' + k - 52);
    }

    /** 30 DATA with 60 constructors, 59 DEFINITIONS with 4 PARAMETERS each, and main with a let of 4. */
    private static String great() {
        StringBuilder text = new StringBuilder();
        for (int k = 0; k < 30; k++) {
            text.append("data T# a=U# a|V#\n".replace('#', letter(k)));
        }
        text.append("fa a b c d=a+b*c-d\n");
        for (int k = 1; k < 59; k++) {
            text.append("f").append(letter(k)).append(" a b c d=f").append(letter(k - 1)).append(" b c d a+a\n");
        }
        return text + "main=let p=f6 1 2 3 4;q=f6 p 1 2 3;r=f6 p q 1 2;s=f6 p q r 1 in[p,q,r,s]";
    }

    private static int great(int k, int a, int b, int c, int d) {
        return k == 0 ? a + b * c - d : great(k - 1, b, c, d, a) + a;
    }

    /** All limits of a program at once, on a full TAPE; then one LEXEME more, in the place of a blank. */
    private static void greatestProgram() {
        String bare = great();
        int more = 1500 - House.of(bare).it.count(0);
        String full = bare + ";".repeat(more);
        full = full + " ".repeat(4000 - full.length());
        House house = House.of(full);
        int[] counts = {1500, 60, 300, 60, 60};
        for (int what = 0; what < counts.length; what++) {
            House.due("greatest", "count(" + what + ")", house.it.count(what), counts[what]);
        }
        House.due("greatest", "sign(58)", house.sign(58), "f6 :: Int -> Int -> Int -> Int -> Int");
        House.due("greatest", "stricts(58)", house.stricts(58), "1111");
        House.due("greatest", "group(59)", house.it.group(59), 59);
        house.begin();
        for (int n = 0; n < 20; n++) {
            house.run(2000);
            if (house.it.count(5) != 1) {
                break;
            }
        }
        int p = great(58, 1, 2, 3, 4);
        int q = great(58, p, 1, 2, 3);
        int r = great(58, p, q, 1, 2);
        int s = great(58, p, q, r, 1);
        House.due("greatest", "text", house.text(), "[" + p + "," + q + "," + r + "," + s + "]");
        House.fault(full.replaceFirst(" $", ";"), 8, 0);
        House.fault(full.replace("in[p", "in[z"), 5, 90);
        House.fault(full.replace("in[p", "in[("), 2, 90);
        House.fault(full.replace("in[p", "in[T"), 5, 90);
        House.fault(full.replace("in[p,", "in[p "), 7, 90);
    }

    /** A full TAPE of one byte, and of one byte behind the beginning of a DEFINITION. */
    private static void greatestTexts() {
        String[] bytes = {" ", "\n", ";", "-", "a", "A", "9", "(", "=", "#", "\0", "\u00ff"};
        int[] alone = {5 + 16, 5 + 16 * 4001, 5 + 16, 5 + 16, 1 + 16, 1 + 16, 1 + 16, 2 + 16, 2 + 16, 1 + 16, 1 + 16, 1 + 16};
        int[] behind = {2 + 16, 2 + 16 * 3996, 2 + 16, 2 + 16, 1 + 16, 1 + 16, 1 + 16, 8 + 16, 2 + 16, 1 + 16, 1 + 16, 1 + 16};
        for (int k = 0; k < bytes.length; k++) {
            House.due("4000 of " + (int) bytes[k].charAt(0), "read()", new House().tape(bytes[k].repeat(4000)).it.read(), alone[k]);
            String text = "main=" + bytes[k].repeat(3995);
            House.due("3995 of " + (int) bytes[k].charAt(0), "read()", new House().tape(text).it.read(), behind[k]);
        }
        // As many LEXEMES as there can be, and a DEFINITION behind them.
        House.fault(";".repeat(3994) + "main=1", 8, 0);
        House.fault(";".repeat(3994) + "main=a", 5, 1);
        House.shows("\n".repeat(3994) + "main=1", "1");
    }
}
