/** A NeedHouse with a text, and checks of its answers; prints each answer that is not the one that is due. */
final class House {
    private static int wrong = 0;
    private static int made = 0;

    final NeedHouse it = new NeedHouse();

    /** Feeds a text, byte by byte as its characters are. */
    House tape(String text) {
        for (int at = 0; at < text.length(); at += 20) {
            int[] row = new int[5];
            for (int k = 0; k < 20; k++) {
                int c = at + k < text.length() ? text.charAt(at + k) : ' ';
                row[k / 4] = row[k / 4] << 8 | c & 255;
            }
            fits(text, it.feed(row[0], row[1], row[2], row[3], row[4]));
        }
        it.back((20 - text.length() % 20) % 20);
        return this;
    }

    /** A test whose text is too long for the TAPE tests something else than it says. */
    private static void fits(String text, int fed) {
        if (fed == NeedHouse.NONE) {
            wrong++;
            System.out.println(clipped(text) + ": has no room on the TAPE");
        }
    }

    private static String clipped(String text) {
        String line = text.replace("\n", "\\n");
        return line.length() <= 300 ? line : line.substring(0, 100) + " .. " + line.substring(line.length() - 200);
    }

    static House of(String text) {
        House house = new House().tape(text);
        due(text, "read()", house.it.read(), 0);
        return house;
    }

    /** A program that is begun. */
    static House begun(String text) {
        House house = of(text);
        due(text, "begin()", house.begin(), "begun");
        return house;
    }

    /** A program that has run until it ends, or a bound. */
    static House ran(String text) {
        House house = begun(text);
        for (int n = 0; n < 200 && house.it.count(5) == 1; n++) {
            house.it.run(2000);
        }
        return house;
    }

    static void fault(String text, int kind, int line) {
        due(text, "read()", new House().tape(text).it.read(), kind + 16 * line);
    }

    static void fine(String text) {
        due(text, "read()", new House().tape(text).it.read(), 0);
    }

    /**
     * A fault of a kind at the token behind the @. Each @ and each ~ is a line's end, with blanks behind it up to a column
     * that is greater than those of all BLOCKS, so that the token stands alone on its line and nothing else changes.
     */
    static void faultAt(String text, int kind) {
        int line = 1;
        int at = 0;
        StringBuilder laid = new StringBuilder();
        for (char c : text.toCharArray()) {
            boolean mark = c == '@' || c == '~';
            line += mark || c == '\n' ? 1 : 0;
            at = c == '@' ? line : at;
            laid.append(mark ? "\n" + " ".repeat(200 + line) : "" + c);
        }
        due(text, "read()", new House().tape(laid.toString()).it.read(), kind + 16 * at);
    }

    String text() {
        StringBuilder text = new StringBuilder();
        for (int k = 0; k < 2000 && it.shown(k) != NeedHouse.NONE; k++) {
            text.append((char) it.shown(k));
        }
        return text.toString();
    }

    String sign(int i) {
        StringBuilder text = new StringBuilder();
        for (int k = 0; k < 3000 && it.sign(i, k) != NeedHouse.NONE; k++) {
            text.append((char) it.sign(i, k));
        }
        return text.toString();
    }

    String stricts(int i) {
        StringBuilder text = new StringBuilder();
        for (int k = 0; k < 20 && it.strict(i, k) != NeedHouse.NONE; k++) {
            text.append(it.strict(i, k));
        }
        return text.toString();
    }

    static void due(String where, String call, long got, long want) {
        made++;
        if (got != want) {
            wrong++;
            System.out.println(clipped(where) + ": " + call + " answered " + got + ", due is " + want);
        }
    }

    static void due(String where, String call, String got, String want) {
        made++;
        if (!got.equals(want)) {
            wrong++;
            System.out.println(clipped(where) + ": " + call + " answered " + got + ", due is " + want);
        }
    }

    static void shows(String text, String want) {
        House house = ran(text);
        due(text, "count(5)", house.it.count(5), 2);
        due(text, "text", house.text(), want);
    }

    static void ends(String text, int state, int steps) {
        House house = ran(text);
        due(text, "count(5)", house.it.count(5), state);
        due(text, "count(6)", house.it.count(6), steps);
    }

    /** What run(n) answers, or "argument", "state" for the exception that it throws. */
    String run(int n) {
        try {
            return "" + it.run(n);
        } catch (IllegalArgumentException e) {
            return "argument";
        } catch (IllegalStateException e) {
            return "state";
        }
    }

    /** What begin() does: "begun", or "state" for the exception that it throws. */
    String begin() {
        try {
            it.begin();
            return "begun";
        } catch (IllegalStateException e) {
            return "state";
        }
    }

    /** All that can be asked of the run and of the program, for what must not change. */
    String all() {
        StringBuilder all = new StringBuilder();
        for (int what = 0; what <= 12; what++) {
            all.append(it.count(what)).append(' ');
        }
        for (int k = 0; k < 3; k++) {
            all.append(it.sign(0, k)).append(' ').append(it.shown(k)).append(' ').append(it.said(k)).append(' ');
        }
        for (int i = 0; i < 3; i++) {
            all.append(it.group(i)).append(' ').append(it.strict(i, 0)).append(' ').append(it.global(i, 0)).append(' ');
            all.append(it.global(i, 1)).append(' ').append(it.global(i, 2)).append(' ');
        }
        return all.toString();
    }

    static void end() {
        System.out.println(made + " answers, " + wrong + " of them wrong");
        if (wrong > 0) {
            System.exit(1);
        }
    }
}
