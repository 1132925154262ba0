/** A NeedHouse with a text, and checks of its answers; prints each answer that is not the one that is due. */
final class House {
    private static int wrong = 0;
    private static int made = 0;

    final NeedHouse it = new NeedHouse();

    /** Feeds a text, byte by byte as its characters are. */
    House tape(String text) {
        for (int at = 0; at < text.length(); at += 20) {
            int[] row = new int[5];
            for (int k = 0; k < 20; k++) {
                int c = at + k < text.length() ? text.charAt(at + k) : ' ';
                row[k / 4] = row[k / 4] << 8 | c & 255;
            }
            it.feed(row[0], row[1], row[2], row[3], row[4]);
        }
        it.back((20 - text.length() % 20) % 20);
        return this;
    }

    static House of(String text) {
        House house = new House().tape(text);
        due(text, "read()", house.it.read(), 0);
        return house;
    }

    /** A program that is begun. */
    static House begun(String text) {
        House house = of(text);
        house.it.begin();
        return house;
    }

    /** A program that has run until it ends, or a bound. */
    static House ran(String text) {
        House house = begun(text);
        for (int n = 0; n < 200 && house.it.count(5) == 1; n++) {
            house.it.run(2000);
        }
        return house;
    }

    static void fault(String text, int kind, int line) {
        due(text, "read()", new House().tape(text).it.read(), kind + 16 * line);
    }

    static void fine(String text) {
        due(text, "read()", new House().tape(text).it.read(), 0);
    }

    String text() {
        StringBuilder text = new StringBuilder();
        for (int k = 0; k < 2000 && it.shown(k) != NeedHouse.NONE; k++) {
            text.append((char) it.shown(k));
        }
        return text.toString();
    }

    String sign(int i) {
        StringBuilder text = new StringBuilder();
        for (int k = 0; k < 3000 && it.sign(i, k) != NeedHouse.NONE; k++) {
            text.append((char) it.sign(i, k));
        }
        return text.toString();
    }

    String stricts(int i) {
        StringBuilder text = new StringBuilder();
        for (int k = 0; k < 20 && it.strict(i, k) != NeedHouse.NONE; k++) {
            text.append(it.strict(i, k));
        }
        return text.toString();
    }

    static void due(String where, String call, long got, long want) {
        made++;
        if (got != want) {
            wrong++;
            System.out.println(where.replace("\n", "\\n") + ": " + call + " answered " + got + ", due is " + want);
        }
    }

    static void due(String where, String call, String got, String want) {
        made++;
        if (!got.equals(want)) {
            wrong++;
            System.out.println(where.replace("\n", "\\n") + ": " + call + " answered " + got + ", due is " + want);
        }
    }

    static void shows(String text, String want) {
        House house = ran(text);
        due(text, "count(5)", house.it.count(5), 2);
        due(text, "text", house.text(), want);
    }

    static void ends(String text, int state, int steps) {
        House house = ran(text);
        due(text, "count(5)", house.it.count(5), state);
        due(text, "count(6)", house.it.count(6), steps);
    }

    static void end() {
        System.out.println(made + " answers, " + wrong + " of them wrong");
        if (wrong > 0) {
            System.exit(1);
        }
    }
}
