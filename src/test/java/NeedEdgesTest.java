/** The edges of "==== 3. WHAT IS NEEDED", and of strict. */
public final class NeedEdgesTest {
    public static void main(String[] args) {
        nothing();
        oneVariable();
        operands();
        choices();
        cases();
        patternNames();
        lets();
        letsOverMany();
        letNames();
        parametersAndArguments();
        withoutParameters();
        says();
        otherVariables();
        otherEs();
        constructors();
        greatest();
        mostNames();
        mostNamesOfBranches();
        places();
        House.end();
    }

    /** Which PARAMETERS of the first DEFINITION are STRICT. */
    private static void needs(String text, String want) {
        House.due(text, "strict", House.of(text + "\nmain = 1").stricts(0), want);
    }

    /** "of a NUMBER, \, a constructor (alone, or with ARGUMENTS, :, pairs, lists): none". */
    private static void nothing() {
        needs("f x = 1", "0");
        needs("f x = \\y -> x", "0");
        needs("f x = \\y -> x + y", "0");
        needs("f x = True", "0");
        needs("f x = []", "0");
        needs("f x = [x]", "0");
        needs("f x y = [x + 1, y]", "00");
        needs("f x y = x : y", "00");
        needs("f x y = x + 1 : y : []", "00");
        needs("f x y = (x, y)", "00");
        needs("f x y = (x + y, y)", "00");
    }

    /** "Of a variable: itself". */
    private static void oneVariable() {
        needs("f x = x", "1");
        needs("f x y = x", "10");
        needs("f x y = y", "01");
        needs("f x = (x)", "1");
        needs("f x = g\ng = 1", "0");
    }

    /** "+ .. >= : both together. && ||: of the left one". */
    private static void operands() {
        for (String sign : new String[] {"+", "-", "*", "/", "%", "==", "/=", "<", "<=", ">", ">="}) {
            needs("f x y z = x " + sign + " y", "110");
            needs("f x y z = (x + 1) " + sign + " (1 - z)", "101");
        }
        for (String sign : new String[] {"&&", "||"}) {
            needs("f x y z = x " + sign + " y", "100");
            needs("f x y z = x " + sign + " y " + sign + " z", "100");
            needs("f x y z = (x " + sign + " y) " + sign + " z", "100");
            needs("f x y z = x == y " + sign + " z", "110");
        }
        needs("f x y z = x && y || z", "100");
        needs("f x y z = x || y && z", "100");
    }

    /** "if ..: of the condition .. and what all branches need". */
    private static void choices() {
        needs("f x y z = if x then y else z", "100");
        needs("f x y z = if x then y else y", "110");
        needs("f x y z = if x then y + z else y", "110");
        needs("f x y z = if x then y else y + z", "110");
        needs("f x y z = if x then y + z else z + y", "111");
        needs("f x y z = if x == y then 1 else 2", "110");
        needs("f x y z = if x then if y then z else z else z", "101");
        needs("f x y z = if x then if y then 1 else z else if y then z else 1", "110");
    }

    /** "case: .. E, and what all branches need". */
    private static void cases() {
        needs("f x y = case x of _ -> 1", "10");
        needs("f x y = case x of _ -> y", "11");
        needs("f x y = case x of 1 -> y; _ -> y + 1", "11");
        needs("f x y = case x of 1 -> y; _ -> 1", "10");
        needs("f x y = case x of 1 -> 1; _ -> y", "10");
        needs("f x y = case x of 1 -> y; 2 -> y; 3 -> 1; _ -> y", "10");
        needs("f x y = case x of 1 -> y; 2 -> y; 3 -> y; _ -> y", "11");
        needs("f x y = case [x] of _ -> y", "01");
        needs("f x y = case 1 of 1 -> x; _ -> x + y", "10");
        needs("f x y z = case x of 1 -> y + z; 2 -> z; _ -> x + z", "101");
    }

    /** "(without their PATTERN's NAMES)". */
    private static void patternNames() {
        needs("f x y = case x of y -> y", "10");
        needs("f x y = case x of z -> y", "11");
        needs("f x y = case x of x -> x + y", "11");
        needs("f x y = case x of (y, _) -> y", "10");
        needs("f x y = case x of (_, y) -> y", "10");
        needs("f x y = case x of (_, _) -> y", "11");
        needs("f x y = case x of (a, b) -> y + a", "11");
        needs("f x y = case x of y : _ -> y; [] -> 1", "10");
        needs("f x y = case x of a : _ -> y; [] -> y", "11");
        // In one branch the NAME is the PATTERN's, in the other it is the PARAMETER.
        needs("f x y = case x of 1 -> y; y -> y", "10");
        needs("f x y = case x of 1 -> y; z -> y", "11");
        needs("f x y = case 1 of 1 -> y; y -> y + x", "00");
        needs("f x = case 1 of x -> x", "0");
    }

    /** "let: what its E needs; for each of its DEFINITIONS without PARAMETERS that is needed so .. what that one's E needs". */
    private static void lets() {
        needs("f x y = let z = x in z", "10");
        needs("f x y = let z = x in y", "01");
        needs("f x y = let z = x in z + y", "11");
        needs("f x y = let z = x; w = y in z", "10");
        needs("f x y = let z = x + y in [z]", "00");
        needs("f x y = let z = \\a -> x in z y", "00");
        needs("f x y = let z a = x in z y", "00");
        needs("f x y = let z = x in \\a -> z", "00");
        needs("f x y = let z = x in if y then z else z", "11");
        needs("f x y = let z = x in if y then z else 1", "01");
        needs("f x y = let z = x in let w = y in z + w", "11");
        needs("f x y = let z = let w = x in w in z", "10");
    }

    /** "(over any number of them)". */
    private static void letsOverMany() {
        needs("f x = let a = x in a", "1");
        needs("f x = let a = b; b = x in a", "1");
        needs("f x = let b = x; a = b in a", "1");
        needs("f x = let a = b; b = c; c = d; d = x in a", "1");
        needs("f x = let d = x; c = d; b = c; a = b in a", "1");
        needs("f x = let c = d; a = b; d = x; b = c in a", "1");
        needs("f x = let a = b; b = c; c = [x] in a", "0");
        needs("f x = let a = b; b z = x in a", "0");
        needs("f x = let a = b + 1; b = a + x in a", "1");
        needs("f x y = let a = b; b = if x then c else d; c = y; d = y in a", "10");
        needs("f x y = let a = c; b = y; c = x in a", "10");
    }

    /** "without its DEFINITIONS' NAMES". */
    private static void letNames() {
        needs("f x = let x = 1 in x", "0");
        needs("f x y = let x = y in x", "01");
        needs("f x y = let y = x in let x = 1 in x + y", "10");
        needs("f x = let y = let x = 2 in x in y", "0");
        needs("f x = let x = x in x", "0");
        needs("f x y = (let x = 1 in y) + x", "11");
    }

    /** "of a DEFINITION of the PROGRAM with one PARAMETER or more and no more than there are ARGUMENTS". */
    private static void parametersAndArguments() {
        String one = "\ng a = case a of 1 -> \\z -> z; _ -> \\z -> 1";
        needs("f x y = g" + one, "00");
        needs("f x y = g x" + one, "10");
        needs("f x y = g x y" + one, "10");
        String two = "\ng a b = case a + b of 1 -> \\z -> z; _ -> \\z -> 1";
        needs("f x y z = g x" + two, "000");
        needs("f x y z = g x y" + two, "110");
        needs("f x y z = g x y z" + two, "110");
        String three = "\ng a b c = a + b + c";
        needs("f x y z = g x" + three, "000");
        needs("f x y z = g x y" + three, "000");
        needs("f x y z = g x y z" + three, "111");
        // Those ARGUMENTS that stand for STRICT ones, and what these need.
        String middle = "\ng a b c = b";
        needs("f x y z = g x y z" + middle, "010");
        needs("f x y z = g x (y + z) 1" + middle, "011");
        needs("f x y z = g (x + y) 1 z" + middle, "000");
        needs("f x y z = g x (g y z x) y" + middle, "001");
        needs("f x y z = g x (g y z x) y + x" + middle, "101");
    }

    /** A DEFINITION without PARAMETERS is another variable, however many ARGUMENTS it has. */
    private static void withoutParameters() {
        needs("f x = g x\ng = \\a -> a", "0");
        needs("f x y = g x y\ng = h\nh a b = a + b", "00");
        needs("f x = g\ng = 1", "0");
    }

    /** "of say with two or more ARGUMENTS: of the first two". */
    private static void says() {
        needs("f x y z = say", "000");
        needs("f x y z = say x", "000");
        needs("f x y z = say x y", "110");
        needs("f x y z = say x y z", "110");
        needs("f x y z = say (x + y) (y + z)", "111");
        needs("f x y z = say 1 z", "001");
        needs("f x y z = (say x) y", "000");
        needs("f x y z = (say) x y", "110");
        // Where say is a local one it is another variable.
        needs("f say x y = say x y", "100");
        needs("f x y = let say a b = a in say x y", "00");
        needs("f x y = case x of say -> say + y", "11");
    }

    /** "of another variable: itself". */
    private static void otherVariables() {
        needs("f g x = g x", "10");
        needs("f g x y = g x y", "100");
        needs("f g x = g (x + 1)", "10");
        needs("f g x = g x\ng a = a", "10");
        needs("f h x = let g = h x in g 1", "10");
        needs("f h x = let g a = h x in g 1", "00");
        needs("f x = \\g -> g x", "0");
    }

    /** "of another E: what that needs". */
    private static void otherEs() {
        needs("f x y = (if x then \\a -> a else \\a -> 1) y", "10");
        needs("f x y = (case x of 1 -> \\a -> a; _ -> \\a -> 1) y", "10");
        needs("f x y = (let z = x in z) y", "10");
        needs("f x y = (\\a -> a + x) y", "00");
        needs("f x y = (g x) y\ng a = case a of 1 -> \\b -> b; _ -> \\b -> 1", "10");
        needs("f x y = (g x) y\ng a b = a + b", "00");
        needs("f x y z = (x y) z", "100");
    }

    /** "(A CALL of a constructor: none.)" */
    private static void constructors() {
        String data = "data P a = P a a | Q\n";
        House.due("P x y", "strict", House.of(data + "f x y = P x y\nmain = 1").stricts(0), "00");
        House.due("P x", "strict", House.of(data + "f x y = P x\nmain = 1").stricts(0), "00");
        House.due("P", "strict", House.of(data + "f x y = P\nmain = 1").stricts(0), "00");
        House.due("(P) x y", "strict", House.of(data + "f x y = (P) x y\nmain = 1").stricts(0), "00");
        House.due("(P x) y", "strict", House.of(data + "f x y = (P x) y\nmain = 1").stricts(0), "00");
        House.due("case P", "strict", House.of(data + "f x y = case P x 1 of P a b -> a + y\nmain = 1").stricts(0), "01");
    }

    /** "STRICT are the greatest sets". */
    private static void greatest() {
        needs("f x = f x", "1");
        needs("f x y = f y x", "11");
        needs("f x y = f x 1", "10");
        needs("f x y = f 1 y", "01");
        needs("f x y = f 1 1", "00");
        needs("f x y = f 1 x", "00");
        needs("f x y = f y 1", "00");
        needs("f x y z = f y z x", "111");
        needs("f x y z = f y z 1", "000");
        needs("f x y = g y x\ng x y = f y x", "11");
        needs("f x y = if x == 0 then 0 else f (x - 1) y", "10");
        needs("f x y = if x == 0 then y else f (x - 1) y", "11");
        needs("f x y = if x == 0 then y else f (x - 1) (y + 1)", "11");
        needs("f x y = if x == 0 then y else f (x - 1) 1", "10");
        needs("f x y = if x == 0 then y else g x y\ng a b = f a b", "11");
        needs("f x y = if x == 0 then y else g x y\ng a b = f a 1", "10");
        // What falls away of one makes it fall away of the others, however far.
        needs("f x = g x\ng x = h x\nh x = k x\nk x = 1", "0");
        needs("f x = g x\ng x = h x\nh x = k x\nk x = x", "1");
        needs("f x = g x\ng x = h x\nh x = f x", "1");
    }

    /** Sets of as many names as there can be: the 8 PARAMETERS of the last DEFINITION of 33. */
    private static void mostNames() {
        StringBuilder text = new StringBuilder("main=1\n");
        for (int k = 10; k < 43; k++) {
            text.append("d").append(k).append(" a b c d e f g h=").append(k % 2 == 0 ? "a+h\n" : "d+e\n");
        }
        House house = House.of(text.append("z=1").toString());
        House.due("most", "count(2)", house.it.count(2), 299);
        for (int k = 0; k < 33; k++) {
            House.due("most", "strict(" + k + ")", house.stricts(k + 1), k % 2 == 0 ? "10000001" : "00011000");
        }
    }

    /** So it is with branches, PATTERNS and lets: each of 42 DEFINITIONS has 7 names, 294 in all, and main. */
    private static void mostNamesOfBranches() {
        StringBuilder text = new StringBuilder("main=1\n");
        for (int k = 10; k < 52; k++) {
            text.append("d").append(k).append(" a b c d=case a of e->if e==1 then b+c else let f=b in f+d\n");
        }
        House house = House.of(text.toString());
        House.due("branches", "count(2)", house.it.count(2), 295);
        for (int k = 0; k < 42; k++) {
            House.due("branches", "strict(" + k + ")", house.stricts(k + 1), "1100");
        }
    }

    /** "Whether PARAMETER k (from 0 on) of DEFINITION i is STRICT: 1 or 0. NONE if there is none such". */
    private static void places() {
        House house = House.of("f x y = y\nmain = let g a b c = 1 in f 1 2\ng = \\x -> x");
        int[][] want = {{-1, 0, 1, -1, -1}, {-1, -1, -1, -1, -1}, {-1, -1, -1, -1, -1}, {-1, -1, -1, -1, -1}};
        for (int i = 0; i < want.length; i++) {
            for (int k = -1; k <= 3; k++) {
                House.due("places", "strict(" + i + ", " + k + ")", house.it.strict(i, k), want[i][k + 1]);
            }
        }
        House.due("places", "strict(-1, 0)", house.it.strict(-1, 0), -1);
        House.due("places", "strict(MIN, 0)", house.it.strict(Integer.MIN_VALUE, 0), -1);
        House.due("places", "strict(MAX, 0)", house.it.strict(Integer.MAX_VALUE, 0), -1);
        House.due("places", "strict(0, MIN)", house.it.strict(0, Integer.MIN_VALUE), -1);
        House.due("places", "strict(0, MAX)", house.it.strict(0, Integer.MAX_VALUE), -1);
    }
}
