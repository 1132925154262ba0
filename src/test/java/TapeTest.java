/** Promises 1 to 3: a new object, feed, back; and that read uses the tape up. */
public final class TapeTest {
    public static void main(String[] args) {
        newObject();
        feed();
        back();
        House.end();
    }

    private static void newObject() {
        NeedHouse it = new NeedHouse();
        for (int what = 0; what <= 12; what++) {
            House.due("new", "count(" + what + ")", it.count(what), 0);
        }
        House.due("new", "back(0)", it.back(0), 0);
        House.due("new", "back(1)", it.back(1), -1);
        House.due("new", "sign", it.sign(0, 0), -1);
        House.due("new", "strict", it.strict(0, 0), -1);
        House.due("new", "group", it.group(0), -1);
        House.due("new", "global", it.global(0, 0), -1);
        House.due("new", "shown", it.shown(0), -1);
        House.due("new", "said", it.said(0), 0);
        House.due("new", "NONE", NeedHouse.NONE, -1);
        boolean thrown = false;
        try {
            it.begin();
        } catch (IllegalStateException e) {
            thrown = true;
        }
        House.due("new", "begin throws", thrown ? 1 : 0, 1);
        // An empty text has no main: 5 at the end, in line 1.
        House.due("new", "read()", it.read(), 5 + 16);
    }

    private static void feed() {
        NeedHouse it = new NeedHouse();
        for (int n = 1; n <= 200; n++) {
            House.due("feed", "feed " + n, it.feed(0x20202020, 0x20202020, 0x20202020, 0x20202020, 0x20202020), 20 * n);
        }
        House.due("feed", "full", it.feed(0, 0, 0, 0, 0), -1);
        House.due("feed", "back", it.back(19), 3981);
        House.due("feed", "nearly full", it.feed(0, 0, 0, 0, 0), -1);
        House.due("feed", "back", it.back(1), 3980);
        House.due("feed", "full again", it.feed(0x20202020, 0x20202020, 0x20202020, 0x20202020, 0x20202020), 4000);
        House.due("feed", "read", it.read(), 5 + 16);
        House.due("feed", "used up", it.back(0), 0);
        // The highest byte comes first: "main = 7" and blanks.
        it.feed(0x6d61696e, 0x203d2037, 0x20202020, 0x20202020, 0x20202020);
        House.due("feed", "read main = 7", it.read(), 0);
        House.due("feed", "LEXEMES", it.count(0), 3);
        // A byte above 127 is no LEXEME.
        it.feed(0x6d61696e, 0x203d2037, 0xff202020, 0x20202020, 0x20202020);
        House.due("feed", "byte 255", it.read(), 1 + 16);
        it.feed(0x6d61696e, 0x203d2037, 0, 0, 0);
        House.due("feed", "byte 0", it.read(), 1 + 16);
    }

    private static void ends(String text, int gone, int want) {
        House house = new House().tape(text);
        house.it.back(gone);
        House.due(text, "read() without its last " + gone, house.it.read(), want);
    }

    private static void back() {
        NeedHouse it = new NeedHouse();
        it.feed(0x6d61696e, 0x203d2037, 0x00202020, 0x20202020, 0x20202020);
        House.due("back", "back(-1)", it.back(-1), -1);
        House.due("back", "back(21)", it.back(21), -1);
        House.due("back", "back(MIN)", it.back(Integer.MIN_VALUE), -1);
        House.due("back", "back(MAX)", it.back(Integer.MAX_VALUE), -1);
        House.due("back", "back(0)", it.back(0), 20);
        House.due("back", "back(12)", it.back(12), 8);
        House.due("back", "read", it.read(), 0);
        House.due("back", "back(1)", it.back(1), -1);
        it.feed(1, 2, 3, 4, 5);
        House.due("back", "all", it.back(20), 0);
        // What went is not read.
        ends("main = 1--", 1, 2 + 16);
        ends("main = 1 -- ((", 0, 0);
        ends("main = 12", 1, 0);
        ends("mains = 1; main = ma", 2, 2 + 16);
        ends("main = xs; x = 1", 7, 5 + 16);
        ends("main = 1 \n)", 1, 0);
        ends("main = 21474836470", 1, 0);
        ends("main = 1 == 2", 2, 2 + 16);
        ends("main = 1 ==", 1, 2 + 16);
    }
}
