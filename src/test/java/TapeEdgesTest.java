/** The edges of "Terms", TEXT: the TAPE and its LEXEMES. */
public final class TapeEdgesTest {
    private static final String BLANKS = " ".repeat(20);

    public static void main(String[] args) {
        fullTape();
        emptyTape();
        lastByte();
        usedUp();
        order();
        lines();
        columns();
        everyByte();
        everyByteFirst();
        comments();
        names();
        cons();
        words();
        numbers();
        signs();
        longest();
        House.end();
    }

    private static int feed(House house, String twenty) {
        int[] row = new int[5];
        for (int k = 0; k < 20; k++) {
            row[k / 4] = row[k / 4] << 8 | twenty.charAt(k) & 255;
        }
        return house.it.feed(row[0], row[1], row[2], row[3], row[4]);
    }

    /** "A TAPE has at most 4,000 bytes"; "NONE, and nothing comes, if it would have more than 4,000". */
    private static void fullTape() {
        House house = new House().tape("main = 5\n" + " ".repeat(3951));
        House.due("full", "3960", house.it.back(0), 3960);
        House.due("full", "to 3980", feed(house, BLANKS), 3980);
        House.due("full", "to 4000", feed(house, BLANKS), 4000);
        House.due("full", "to 4020", feed(house, ")".repeat(20)), -1);
        House.due("full", "as it was", house.it.back(0), 4000);
        House.due("full", "to 3981", house.it.back(19), 3981);
        House.due("full", "to 4001", feed(house, ")".repeat(20)), -1);
        House.due("full", "as it was", house.it.back(0), 3981);
        House.due("full", "to 3980", house.it.back(1), 3980);
        House.due("full", "to 4000", feed(house, BLANKS), 4000);
        House.due("full", "to 3999", house.it.back(1), 3999);
        House.due("full", "to 4019", feed(house, ")".repeat(20)), -1);
        House.due("full", "all", house.it.back(3999), 0);
        House.due("full", "from 0", feed(house, "main = 1--" + " ".repeat(10)), 20);
        House.due("full", "read", house.it.read(), 0);
        // What was refused did not come, what came is read.
        House kept = new House().tape("main = 5\n" + " ".repeat(3991));
        House.due("kept", "refused", feed(kept, ")".repeat(20)), -1);
        House.due("kept", "read", kept.it.read(), 0);
        House.due("kept", "count(0)", kept.it.count(0), 3);
    }

    /** "NONE, and nothing goes, if n is below 0 or there are not so many". */
    private static void emptyTape() {
        House house = new House();
        House.due("empty", "back(-1)", house.it.back(-1), -1);
        House.due("empty", "back(0)", house.it.back(0), 0);
        House.due("empty", "back(1)", house.it.back(1), -1);
        House.due("empty", "feed", feed(house, "main = 1" + " ".repeat(12)), 20);
        House.due("empty", "back(21)", house.it.back(21), -1);
        House.due("empty", "back(-1)", house.it.back(-1), -1);
        House.due("empty", "back(MIN)", house.it.back(Integer.MIN_VALUE), -1);
        House.due("empty", "back(MAX)", house.it.back(Integer.MAX_VALUE), -1);
        House.due("empty", "as it was", house.it.back(0), 20);
        House.due("empty", "back(20)", house.it.back(20), 0);
        House.due("empty", "feed", feed(house, "main = 2 + 3)" + " ".repeat(7)), 20);
        House.due("empty", "back(8)", house.it.back(8), 12);
        House.due("empty", "back(13)", house.it.back(13), -1);
        House.due("empty", "read", house.it.read(), 0);
        House.due("empty", "count(0)", house.it.count(0), 5);
    }

    /** The 4,000th byte is read, too. */
    private static void lastByte() {
        House ends = new House().tape(" ".repeat(3992) + "main = 7");
        House.due("last", "read", ends.it.read(), 0);
        House bad = new House().tape("main = 7" + " ".repeat(3991) + "#");
        House.due("last", "bad", bad.it.read(), 1 + 16);
        House line = new House().tape("x = 7" + " ".repeat(3994) + "\n");
        House.due("last", "line", line.it.read(), 5 + 32);
        House before = new House().tape("x = 7" + " ".repeat(3993) + "\n ");
        House.due("last", "line", before.it.read(), 5 + 32);
        House shorter = new House().tape("x = 7" + " ".repeat(3994) + "\n");
        shorter.it.back(1);
        House.due("last", "without", shorter.it.read(), 5 + 16);
    }

    /** "read() uses it up", with a fault, too. */
    private static void usedUp() {
        House house = new House().tape("main = 1");
        House.due("used", "read", house.it.read(), 0);
        House.due("used", "back(1)", house.it.back(1), -1);
        House.due("used", "back(0)", house.it.back(0), 0);
        House.due("used", "feed", feed(house, "main = (" + " ".repeat(12)), 20);
        House.due("used", "fault", house.it.read(), 2 + 16);
        House.due("used", "back(0)", house.it.back(0), 0);
        House.due("used", "of nothing", house.it.read(), 5 + 16);
        House.due("used", "no program", house.it.count(1), 0);
    }

    /** "Twenty bytes, the highest of a first": each of the twenty in its place. */
    private static void order() {
        for (int k = 0; k < 20; k++) {
            House house = new House();
            feed(house, "\n".repeat(k) + "#" + "\n".repeat(19 - k));
            House.due("order", "line of byte " + k, house.it.read(), 1 + 16 * (k + 1));
        }
        House all = new House();
        feed(all, "abcdef = 1;main = 23");
        feed(all, "45" + " ".repeat(18));
        House.due("order", "read", all.it.read(), 0);
        all.it.begin();
        all.it.run(9);
        House.due("order", "text", all.text(), "2345");
        House.due("order", "sign", all.sign(0), "abcdef :: Int");
    }

    /** "LINES end at bytes 10"; the end's line: "one more than there are 10s". */
    private static void lines() {
        House.fault("", 5, 1);
        House.fault("\n", 5, 2);
        House.fault("\n\n", 5, 3);
        House.fault("-- \n", 5, 2);
        House.fault("x = 1\n", 5, 2);
        House.fault("x = 1\n--\n--", 5, 3);
        House.fault("\n".repeat(3999) + "#", 1, 4000);
        House.fault("\n".repeat(4000), 5, 4001);
        House.fault("main = (\n\n", 2, 3);
        House.fault("main = 1\r", 1, 1);
        House.fault("main = 1\n\r", 1, 2);
        House.fault("\n\nmain = 1 1\n\n", 7, 3);
    }

    /** "COLUMNS count the bytes of a line from 0 on". */
    private static void columns() {
        House.fine("main = x\nx = 1");
        House.fault(" main = x\nx = 1", 3, 2);
        House.fault("main = x\n x = 1", 2, 2);
        House.fine(" main = x\n x = 1");
        House.fine("\n\n main = x\n\n x = 1");
        House.fault("\n\n main = x\n\nx = 1", 3, 5);
        // All bytes of a LEXEME count: y stands in the BLOCK's column 16.
        House.shows("f'12 x = let abc = x in abc\nmain = let abc = 1\n           y = 2 in f'12 y", "2");
        House.fault("main = let abc = 1\n            y = 2 in y", 2, 2);
        House.fault("main = let abc = 1\n          y = 2 in y", 2, 2);
    }

    /** Each byte behind what could stand alone: which begin a LEXEME, and which don't. */
    private static void everyByte() {
        for (int c = 0; c < 256; c++) {
            int want = 1 + 16;
            if (c == 10 || c == 32) {
                want = 0;
            } else if (c >= 'a' && c <= 'z' || c >= 'A' && c <= 'Z') {
                want = 5 + 16;
            } else if (c >= '0' && c <= '9') {
                want = 7 + 16;
            } else if ("()[],=|\\_:+-*/%<>".indexOf(c) >= 0) {
                want = 2 + 16;
            } else if (c == ';') {
                want = 0;
            }
            House.due("byte " + c, "read()", new House().tape("main = 1 " + (char) c).it.read(), want);
        }
    }

    /** Each byte as the first one, alone on its line: a NAME alone is no DEFINITION, which the next line ends. */
    private static void everyByteFirst() {
        for (int c = 0; c < 256; c++) {
            int want = 1 + 16;
            if (c == 10 || c == 32 || c == ';') {
                want = 0;
            } else if (c >= 'a' && c <= 'z') {
                want = 2 + 32;
            } else if (c >= 'A' && c <= 'Z' || c >= '0' && c <= '9' || "()[],=|\\_:+-*/%<>".indexOf(c) >= 0) {
                want = 2 + 16;
            }
            House.due("first byte " + c, "read()", new House().tape((char) c + "\nmain = 1").it.read(), want);
        }
    }

    /** "-- with all behind it on its line (wherever a LEXEME could begin; so x--y is x)". */
    private static void comments() {
        House.shows("x = 4\nmain = x--y", "4");
        House.shows("main = 4--y", "4");
        House.shows("main = (4)--y", "4");
        House.shows("main = 4 --", "4");
        House.shows("main = 4 ---- \n - 1", "3");
        House.shows("main = 4 ---\n - 1", "3");
        House.shows("main = 4-->1", "4");
        House.shows("main =--\n 4", "4");
        House.shows("main = 4 +--\n 1", "5");
        House.shows("main = 4 <--\n 1", "False");
        House.shows("--\nmain = 4", "4");
        House.shows("--main = 3\n  main = 4", "4");
        House.fault("main = 4\n--+ 1\n- 2", 2, 3);
        // Any byte may stand there, and a -- in column 0 begins no ITEM.
        House.shows("main = 4 -- \0\t\r#'\u00ff\n + 1", "5");
        House.shows("main = 4\n--\n + 1", "5");
        // One - is a sign, also as the last byte.
        House.fault("main = 4 -", 2, 1);
        House.fault("main = 4 - -1", 2, 1);
        House.shows("main = 4 - 1", "3");
        House.shows("main = 4-1", "3");
    }

    /** "a small letter, then letters, digits and ', 12 in all at most". */
    private static void names() {
        House.shows("abcdefghijk = 1\nmain = abcdefghijk", "1");
        House.shows("abcdefghijkl = 1\nmain = abcdefghijkl", "1");
        House.faultAt("main = 1; @abcdefghijklm~ = 1", 1);
        House.faultAt("main = @abcdefghijkl'~", 1);
        House.faultAt("main = @a12345678901X~", 1);
        House.fault("main = " + "a".repeat(3990), 1, 1);
        House.shows("a = 1\nmain = a", "1");
        House.shows("a''' = 1\nmain = a'''", "1");
        House.shows("aZ0'9z = 1\nmain = aZ0'9z", "1");
        // Each of the twelve tells names apart.
        for (int k = 0; k < 12; k++) {
            String other = "abcdefghijkl".substring(0, k) + "q" + "abcdefghijkl".substring(k + 1);
            House.shows("abcdefghijkl = 1\n" + other + " = 2\nmain = (abcdefghijkl, " + other + ")", "(1,2)");
            String shorter = "abcdefghijkl".substring(0, k + 1);
            House.shows("abcdefghijkl = 1\nmain = let " + shorter + " = 2 in " + shorter, "2");
        }
        House.fault("abcdefghijk = 1\nmain = abcdefghijkl", 5, 2);
        House.fault("abcdefghijkl = 1\nmain = abcdefghijk", 5, 2);
        House.faultAt("main = 1; @'a = 1", 1);
        House.faultAt("main = 1; @_~a = 1", 2);
        // A digit can't begin one: 1a is 1 and a.
        House.due("a1", "count(0)", House.of("a1 = 1\nmain = a1").it.count(0), 6);
        House.fault("a = 1\nmain = 1a", 7, 2);
    }

    /** "CONS: a great letter, then likewise". */
    private static void cons() {
        House.shows("data T = Abcdefghijk\nmain = Abcdefghijk", "Abcdefghijk");
        House.shows("data T = Abcdefghijkl\nmain = Abcdefghijkl", "Abcdefghijkl");
        House.faultAt("data T = @Abcdefghijklm~\nmain = 1", 1);
        House.shows("data T = A'b9Z\nmain = A'b9Z", "A'b9Z");
        House.shows("data T = Z\nmain = Z", "Z");
        House.shows("data Abcdefghijkl = Abcdefghijkm\nmain = Abcdefghijkm", "Abcdefghijkm");
        House.fault("data T = Abcdefghijkl\nmain = Abcdefghijk", 5, 2);
    }

    /** "WORDS, which are no NAMES: data let in if then else case of". */
    private static void words() {
        for (String word : new String[] {"data", "let", "in", "if", "then", "else", "case", "of"}) {
            House.fault("main = 1\n" + word + " = 1", 2, 2);
            House.fault("f " + word + " = 1\nmain = 1", 2, 1);
            House.shows(word + "s = 4\nmain = " + word + "s", "4");
            House.shows(word + "1 = 4\nmain = " + word + "1", "4");
            House.shows(word + "' = 4\nmain = " + word + "'", "4");
            House.shows("x" + word + " = 4\nmain = x" + word, "4");
            String less = word.substring(0, word.length() - 1);
            House.shows(less + " = 4\nmain = " + less, "4");
            String great = word.substring(0, 1).toUpperCase() + word.substring(1);
            House.shows("data T = " + great + "\nmain = " + great, great);
        }
    }

    /** "NUMBERS: 1 to 10 digits, 2147483647 at most". */
    private static void numbers() {
        House.shows("main = 0", "0");
        House.shows("main = 9", "9");
        House.shows("main = 123456789", "123456789");
        House.shows("main = 1234567890", "1234567890");
        House.faultAt("main = @12345678901~", 1);
        House.shows("main = 0000000000", "0");
        House.shows("main = 0000000001", "1");
        House.faultAt("main = @00000000000~", 1);
        House.faultAt("main = @00000000001~", 1);
        House.shows("main = 2147483646", "2147483646");
        House.shows("main = 2147483647", "2147483647");
        House.faultAt("main = @2147483648~", 1);
        House.faultAt("main = @2147483650~", 1);
        House.faultAt("main = @3000000000~", 1);
        House.faultAt("main = @4294967296~", 1);
        House.faultAt("main = @4294967297~", 1);
        House.faultAt("main = @9999999999~", 1);
        House.fault("main = " + "1".repeat(3993), 1, 1);
        // In a PATTERN, too.
        House.shows("main = case 2147483647 of 2147483647 -> 1", "1");
        House.faultAt("main = case 1 of @2147483648~ -> 1", 1);
    }

    /** Each SIGN is one LEXEME, of one byte or of two. */
    private static void signs() {
        lexemes("main = (1)", 5);
        lexemes("main=[1,2]", 7);
        lexemes("data A=B|C;main=1", 10);
        lexemes("main=(\\x->x)1", 9);
        lexemes("main=case 1 of _->2", 8);
        lexemes("main=1:[]", 6);
        lexemes("main=1+2-3*4/5%6", 13);
        lexemes("main=1==2", 5);
        lexemes("main=1/=2", 5);
        lexemes("main=1<2", 5);
        lexemes("main=1<=2", 5);
        lexemes("main=1>2", 5);
        lexemes("main=1>=2", 5);
        lexemes("main=True&&True||True", 7);
    }

    private static void lexemes(String text, int want) {
        House.due(text, "count(0)", House.of(text).it.count(0), want);
    }

    /** "LEXEMES, the longest that can be". */
    private static void longest() {
        House.faultAt("main = 1 ==@=~ 2", 2);
        House.faultAt("main = 1 /=@=~ 2", 2);
        House.faultAt("main = 1 <=@=~ 2", 2);
        House.faultAt("main = 1 >=@=~ 2", 2);
        House.faultAt("main = 1 >@>=~ 2", 2);
        House.faultAt("main = True ||@|~ True", 2);
        House.faultAt("main = True &&@&& True", 2);
        House.faultAt("main = True &&@& True", 1);
        House.faultAt("main = True @& & True", 1);
        House.faultAt("main = True @| | True", 2);
        House.faultAt("main = 1 @= = 2", 2);
        House.faultAt("main = case 1 of x @- > 2", 2);
        House.faultAt("main = 1 <@ = 2", 2);
        House.faultAt("f = \\x ->@> 2", 2);
        House.faultAt("main = 1 @-> 2", 2);
        House.due("a==b", "read", House.of("a=1\nb=2\nmain=a==b").it.count(0), 11);
    }
}
