/** The edges of "==== 2. TYPES": what can't be ALIKE and where that is told, FREE ones, sizes; sign and group. */
public final class TypeEdgesTest {
    private static final String DATAS = "data A = A\ndata B a = B a | B' a a\ndata C a b = C a b\n";

    public static void main(String[] args) {
        kinds();
        parts();
        standsInIt();
        itself();
        placeOfArguments();
        placeOfOperands();
        placeOfRowsAndLists();
        placeOfBranches();
        placeOfPatterns();
        placeOfDefinitions();
        placeOfBrackets();
        order();
        orderOfGroups();
        free();
        sizes();
        sizesOfLets();
        farGreater();
        sizeAmongFaults();
        mainLast();
        signs();
        unknowns();
        signPlaces();
        groups();
        groupPlaces();
        House.end();
    }

    private static String times(int n, String what) {
        return what.repeat(n);
    }

    /** "else they must be of the same kind": each kind with each. */
    private static void kinds() {
        String[] values = {"1", "True", "[1]", "(1, 2)", "A", "(B 1)", "(C 1 2)", "(\\x -> 1)"};
        for (int one = 0; one < values.length; one++) {
            for (int other = 0; other < values.length; other++) {
                if (one == other) {
                    House.fine(DATAS + "main = [" + values[one] + ", " + values[other] + "]");
                } else {
                    House.faultAt(DATAS + "main = [" + values[one] + ", @" + values[other] + "~]", 7);
                }
            }
            // With an UNKNOWN each can be, from either side.
            House.fine(DATAS + "f x = [x, " + values[one] + "]\ng x = [" + values[one] + ", x]\nmain = 1");
        }
    }

    /** "and their parts are made ALIKE, from the first on". */
    private static void parts() {
        String[][] unlike = {{"[1]", "[True]"}, {"(1, 2)", "(True, 2)"}, {"(1, 2)", "(1, True)"}, {"(B 1)", "(B True)"},
            {"(C 1 2)", "(C True 2)"}, {"(C 1 2)", "(C 1 True)"}, {"(\\x -> x + 1)", "(\\x -> x && True)"},
            {"(\\x -> 1)", "(\\x -> True)"}, {"[[1]]", "[1]"}, {"[[]]", "[1]"}, {"(\\x -> 1)", "(\\x y -> 1)"}};
        for (String[] pair : unlike) {
            House.faultAt(DATAS + "main = [" + pair[0] + ", @" + pair[1] + "~]", 7);
            House.faultAt(DATAS + "main = [" + pair[1] + ", @" + pair[0] + "~]", 7);
        }
        House.fine(DATAS + "main = [[], [1], []]");
        House.fine("main = [([], [1]), ([True], [])]");
        House.fine("main = [\\x -> 1, \\x -> x]");
        House.faultAt("main = [\\x -> (x, 1), \\x -> (1, x), @\\x -> (True, 1)]", 7);
        // What the first parts tell counts for the others: x is Int, then it is Bool.
        House.faultAt("f x = [(x, x), @(1, True)]; main = 1", 7);
        House.faultAt("f x y = [(x, (y, x)), @(y, (1, True))]; main = 1", 7);
    }

    /** "an UNKNOWN becomes the other one (it must not stand in it". */
    private static void standsInIt() {
        for (String in : new String[] {"[x]", "(x, 1)", "(1, x)", "(B x)", "(C x 1)", "(C 1 x)", "(\\y -> x)", "[[x]]",
            "(1, (1, [x]))", "(\\y -> case [x, y] of _ -> 1)"}) {
            House.faultAt(DATAS + "f x = [x, @" + in + "~]; main = 1", 7);
            House.faultAt(DATAS + "f x = [" + in + ", @x~]; main = 1", 7);
        }
        House.faultAt("f x = x @x~; main = 1", 7);
        House.faultAt("f x = x 1 @x~; main = 1", 7);
        House.faultAt("@f~ x = f; main = 1", 7);
        House.faultAt("@f~ = [f]; main = 1", 7);
        House.faultAt("@f~ = (f, 1); main = 1", 7);
        // By way of another UNKNOWN.
        House.faultAt("f x y = [(x, y), @(y, [x])]; main = 1", 7);
        House.faultAt("f x y z = [[x, y], [y, z], @[[x], z]]; main = 1", 7);
    }

    /** "if that isn't itself)". */
    private static void itself() {
        House.fine("f x = [x, x]\nmain = 1");
        House.fine("f x y = [[x, y], [y, x], [x, x]]\nmain = 1");
        House.fine("f x y = [(x, y), (y, x), (x, y)]\nmain = 1");
        House.fine("f = f\nmain = 1");
        House.fine("f x = f x\nmain = 1");
        House.fine("f = g\ng = h\nh = f\nmain = 1");
        House.due("itself", "sign", House.of("f x y = [(x, y), (y, x)]\nmain = 1").sign(0), "f :: a -> a -> [(a,a)]");
    }

    /** "CALL: .. (fault at the ARGUMENT)". */
    private static void placeOfArguments() {
        String f = "f x y = x + y; ";
        House.faultAt(f + "main = f @True~ 1", 7);
        House.faultAt(f + "main = f 1 @True~", 7);
        House.faultAt(f + "main = f 1 2 @3~", 7);
        House.faultAt(f + "main = f 1 2 @3~ 4", 7);
        House.faultAt("main = 1 @2~ 3", 7);
        House.faultAt("main = [] @2~", 7);
        House.faultAt("main = say @True~ 1", 7);
        House.faultAt("data A = A Int; main = A @True~", 7);
        House.faultAt("data A = A Int; main = A 1 @2~", 7);
        House.faultAt(f + "main = (f 1) 2 @3~", 7);
        House.faultAt(f + "main = f 1 @f~", 7);
        House.fine(f + "main = f 1 2");
        House.fine(f + "g = f 1\nmain = 1");
    }

    /** "+ - * / %: left, made ALIKE with INT (fault at it), right likewise", tests likewise, "&& ||: likewise with Bool". */
    private static void placeOfOperands() {
        for (String sign : new String[] {"+", "-", "*", "/", "%", "==", "/=", "<", "<=", ">", ">="}) {
            House.faultAt("main = @True~ " + sign + " 1", 7);
            House.faultAt("main = 1 " + sign + " @True~", 7);
            House.faultAt("main = @True~ " + sign + " True", 7);
            House.fine("main = 1 " + sign + " 2");
        }
        for (String sign : new String[] {"&&", "||"}) {
            House.faultAt("main = @1~ " + sign + " True", 7);
            House.faultAt("main = True " + sign + " @1~", 7);
            House.faultAt("main = @1~ " + sign + " 1", 7);
            House.fine("main = True " + sign + " False");
        }
        // What comes of them.
        House.faultAt("main = @1~ + 2 && True", 7);
        House.faultAt("main = True && @1~ + 2", 7);
        House.faultAt("main = @(~1 < 2) == (2 < 3) && True", 7);
        House.faultAt("main = 1 + @(True && True)", 7);
        House.faultAt("main = 1 + 2 - @True~", 7);
        House.faultAt("main = 1 * 2 + @True~ * 3", 7);
        House.faultAt("main = 1 + @[]~", 7);
    }

    /** "x : y: .. (at y)" and "[ .. ]: .. each is made ALIKE (at it)". */
    private static void placeOfRowsAndLists() {
        House.faultAt("main = 1 : @2~", 7);
        House.faultAt("main = 1 : 2 : @3~", 7);
        House.faultAt("main = 1 : @True~ : []", 7);
        House.faultAt("main = 1 : 2 : @True~ : []", 7);
        House.faultAt("main = 1 : @[True]~", 7);
        House.faultAt("main = [] : @[1]~", 7);
        House.fine("main = [] : [[1]]");
        House.faultAt("main = [1, 2, @True~, [], 1]", 7);
        House.faultAt("main = [[1], @[True]~]", 7);
        House.fine("main = [1]");
        House.fine("main = [[], [1]]");
    }

    /** "if: the condition, ALIKE with Bool (at it); then; else, ALIKE with then's (at it)". */
    private static void placeOfBranches() {
        House.faultAt("main = if @1~ then 1 else 2", 7);
        House.faultAt("main = if True then 1 else @True~", 7);
        House.faultAt("main = if True then True else @1~", 7);
        House.faultAt("main = if True then 1 else @if~ True then True else True", 7);
        House.faultAt("main = if True then 1 else @let~ x = True in x", 7);
        House.faultAt("main = if True then 1 else @case~ 1 of _ -> True", 7);
        House.faultAt("main = if True then 1 else @\\x -> x", 7);
        House.faultAt("main = if True then [] else [1, @True~]", 7);
    }

    /** "case: .. the PATTERN's type, ALIKE with the E's (at the PATTERN; ..), then its E, ALIKE with the answer's (at it)". */
    private static void placeOfPatterns() {
        House.faultAt(DATAS + "main = case 1 of @True~ -> 1", 7);
        House.faultAt(DATAS + "main = case 1 of @A~ -> 1", 7);
        House.faultAt(DATAS + "main = case 1 of @C~ x y -> 1", 7);
        House.faultAt(DATAS + "main = case 1 of @[~ ] -> 1", 7);
        House.faultAt(DATAS + "main = case 1 of @x~ : y -> 1", 7);
        House.faultAt(DATAS + "main = case 1 of @_~ : _ -> 1", 7);
        House.faultAt(DATAS + "main = case 1 of @(~ x , y) -> 1", 7);
        House.faultAt(DATAS + "main = case True of @1~ -> 1", 7);
        House.faultAt(DATAS + "main = case A of A -> 1; @B~ x -> 2", 7);
        House.faultAt(DATAS + "main = case 1 of 1 -> 2; _ -> @True~", 7);
        House.faultAt(DATAS + "main = case 1 of 1 -> 2; x -> 3; _ -> @True~", 7);
        // A NAME or _ is of the E's type itself.
        House.faultAt("main = case 1 of x -> @x~ && True", 7);
        House.shows("main = case 1 of x -> case True of _ -> x + 1", "2");
        // The NAMES of a PATTERN have the types of the fields.
        House.faultAt("main = case (1, True) of (x , y) -> x + @y~", 7);
        House.faultAt("main = case [1] of x : y -> x + @y~", 7);
        House.faultAt(DATAS + "main = case C 1 True of C x y -> x + @y~", 7);
        House.shows(DATAS + "main = case C 1 True of C x y -> if y then x else 2", "1");
        House.faultAt(DATAS + "main = case B 1 of B x -> x; B' x y -> x + y + @True~", 7);
    }

    /** "made ALIKE with its UNKNOWN (fault at its NAME)". */
    private static void placeOfDefinitions() {
        House.faultAt("main = 1; @f~ x = f", 7);
        House.faultAt("main = 1; f x = f x + 1; @g~ = [g]", 7);
        House.faultAt("main = let @f~ x = f in 1", 7);
        // f is used as a FUNCTION of Int, and turns out to be one of Bool.
        House.faultAt("main = 1; @f~ x = if x then 1 else f 1", 7);
        House.faultAt("main = 1; f x = g x + 1; @g~ x = case f 1 of _ -> x && True", 7);
    }

    /** "At an E is its first token (that of brackets around it, if there are any)". */
    private static void placeOfBrackets() {
        House.faultAt("main = 1 + @(~ True )", 7);
        House.faultAt("main = 1 + @(~ ( True ) )", 7);
        House.faultAt("main = @(~ True ) + 1", 7);
        House.faultAt("main = say 1 2 + @(~ say 1 True )", 7);
        House.faultAt("main = 1 + @say~ 1 True", 7);
        House.faultAt("main = 1 + @(~ say ) 1 True", 7);
        House.faultAt("main = if @(~ 1 ) then 1 else 2", 7);
        House.faultAt("main = if True then 1 else @(~ True )", 7);
        House.faultAt("main = [1, @(~ True )]", 7);
        House.faultAt("main = [1, @(~ 1 , 2 )]", 7);
        House.faultAt("main = [1, @[~ 1 , 2 ]]", 7);
        House.faultAt("main = case 1 of _ -> 1; _ -> @(~ True )", 7);
        // What is inside is told inside.
        House.faultAt("main = 1 + (~ 1 + @True~ )", 7);
        House.faultAt("main = 1 + (~ 1 + @(~ True ) )", 7);
    }

    /** "its parts from left to right": of two faults the first one. */
    private static void order() {
        House.faultAt("main = 1 (1 + @True~)", 7);
        House.faultAt("main = 1 @1~ (1 + True)", 7);
        House.faultAt("main = (1 + @True~) (1 + True)", 7);
        House.faultAt("main = @True~ + (1 + True)", 7);
        House.faultAt("main = (1 + @True~) + True", 7);
        House.faultAt("main = if @1~ then 1 + True else 2", 7);
        House.faultAt("main = if True then 1 + @True~ else 1 + True", 7);
        House.faultAt("main = if True then 1 else 1 < @True~", 7);
        House.faultAt("main = [1, @True~, 1 + True]", 7);
        House.faultAt("main = 1 : (1 + @True~)", 7);
        House.faultAt("main = (1 + @True~) : 1", 7);
        House.faultAt("main = (1 + @True~, 1 + True)", 7);
        House.faultAt("main = (1, 1 + @True~)", 7);
        House.faultAt("main = case 1 + @True~ of True -> 1", 7);
        House.faultAt("main = case 1 of @True~ -> 1 + True", 7);
        House.faultAt("main = case 1 of 1 -> 1 + @True~; True -> 1", 7);
        House.faultAt("main = case 1 of 1 -> 1; 2 -> @True~; True -> 1", 7);
        House.faultAt("main = case 1 of 1 -> 1; @True~ -> 1; 2 -> True", 7);
        House.faultAt("main = let x = 1 + @True~ in 1 + True", 7);
        House.faultAt("main = let x = 1 in 1 + @True~", 7);
        House.faultAt("main = (\\x -> 1 + @True~) (1 + True)", 7);
        // All parts of an ARGUMENT come ahead of whether it fits.
        House.faultAt("f x = x + 1; main = f [1, @True~]", 7);
    }

    /** "always the first one (by its first DEFINITION) whose DEFINITIONS use none of GROUPS .. that were not looked at yet". */
    private static void orderOfGroups() {
        String bad = " = 1 + @True~";
        String later = " = 1 + True";
        House.faultAt("main = 1; a" + bad + "; b" + later, 7);
        House.faultAt("main = 1; a = b + True; b" + bad, 7);
        House.faultAt("main = 1; a = b + True; b = c + True; c" + bad, 7);
        House.faultAt("main = a + True; b" + bad + "; a" + later, 7);
        House.faultAt("main = 1; a = (case c of _ -> 1 + True); b" + bad + "; c = 1", 7);
        // a and c are one GROUP, which comes ahead of b, and c is looked at behind a.
        House.faultAt("main = 1; a = c; b" + later + "; c = a + @True~", 7);
        House.faultAt("main = 1; a = c + @True~; b" + later + "; c = a + True", 7);
        // Use within a let, a \ and a case counts, and what is told nearer does not.
        House.faultAt("main = 1; a = let x = b in x + True; b" + bad, 7);
        House.faultAt("main = 1; a = let b = 1 in 1 + @True~; b" + later, 7);
        House.faultAt("main = 1; a b = 1 + @True~; b" + later, 7);
        House.faultAt("main = 1; a = (\\b -> 1 + @True~) 1; b" + later, 7);
        House.faultAt("main = 1; a = (case 1 of b -> 1 + @True~); b" + later, 7);
        // In a let likewise.
        House.faultAt("main = let a = b + True; b" + bad + " in 1 + True", 7);
        House.faultAt("main = let a" + bad + "; b" + later + " in 1 + True", 7);
    }

    /** "each UNKNOWN in its type that stands in no type of a variable around .. is FREE". */
    private static void free() {
        House.fine("i x = x\nmain = (i 1, i True)");
        House.fine("main = let i x = x in (i 1, i True)");
        House.fine("main = (\\z -> let i x = x in (i 1, (i True, z))) 1");
        // PARAMETERS, those of \, and PATTERNS' NAMES around are not.
        House.faultAt("f z = let i x = [x, z] in (i 1, i @True~); main = 1", 7);
        House.faultAt("f = \\z -> let i x = [x, z] in (i 1, i @True~); main = 1", 7);
        House.faultAt("f y = case y of z -> let i x = [x, z] in (i 1, i @True~)\nmain = 1", 7);
        House.faultAt("f y = case y of z : _ -> let i x = [x, z] in (i 1, i @True~)\nmain = 1", 7);
        House.faultAt("f y = case y of (_ , z) -> let i x = [x, z] in (i 1, i @True~)\nmain = 1", 7);
        // Those that are around no longer are.
        House.fine("f = ((\\z -> z) 1, let i x = x in (i 1, i True))\nmain = 1");
        House.fine("f y = (case y of z -> z, let i x = x in (i 1, i True))\nmain = 1");
        // A DEFINITION of a GROUP around that is not done: f's own type is not FREE in its E.
        House.faultAt("f x = let g = f in (g 1, g @True~); main = 1", 7);
        House.fine("f x = x\nh = let g = f in (g 1, g True)\nmain = 1");
        // In its GROUP a variable has its type itself, behind it a COPY.
        House.faultAt("f x = (\\y -> x) (g x); g x = (\\y -> x) (f 1, g @True~); main = 1", 7);
        House.fine("f x = (\\y -> x) (g x)\ng x = (\\y -> x) (f x)\nmain = (f 1, f True)");
        House.fine("e = []\nmain = (1 : e, True : e)");
        House.fine("main = let e = [] in (1 : e, True : e)");
        House.faultAt("main = (\\e -> (1 : e, True : @e~)) []", 7);
        House.faultAt("main = case [] of e -> (1 : e, True : @e~)", 7);
    }

    private static void size(String definition, int size) {
        if (size <= 40) {
            House.fine(DATAS + "main = 1\n" + definition);
        } else {
            House.fault(DATAS + "main = 1\n" + definition, 8, 5);
        }
    }

    /** "if its type, written out as a tree, has more than 40 INTs, FUNCTIONS, types and UNKNOWNS". */
    private static void sizes() {
        // k pairs with k + 1 others: 2 k + 1.
        for (String one : new String[] {"1", "True", "A", "[]"}) {
            int of = one.equals("[]") ? 2 : 1;
            for (int k = 10; k <= 21; k++) {
                size("f = " + times(k, "(" + one + ",") + one + times(k, ")"), k + (k + 1) * of);
                size("f = [" + times(k, "(" + one + ",") + one + times(k, ")") + "]", 1 + k + (k + 1) * of);
            }
        }
        // k FUNCTIONS and UNKNOWNS, and what comes.
        for (int k = 18; k <= 20; k++) {
            String some = "\\a b c d e f g h -> \\a b c d e f g h -> \\" + "a b c d".substring(0, 2 * (k - 16) - 1) + " -> ";
            size("f = " + some + "1", 2 * k + 1);
            size("f = " + some + "[1]", 2 * k + 2);
            size("f = " + some + "a", 2 * k + 1);
        }
        // An UNKNOWN counts wherever it stands: FUNCTION, x, k pairs, k + 1 of x.
        for (int k = 17; k <= 20; k++) {
            size("f x = " + times(k, "(x,") + "x" + times(k, ")"), 2 * k + 3);
            size("f x = [" + times(k, "(x,") + "x" + times(k, ")") + "]", 2 * k + 4);
        }
        // Types of DATA with parts, and lists.
        for (int k = 38; k <= 40; k++) {
            size("f = " + times(k - 1, "B (") + "B 1" + times(k - 1, ")"), k + 1);
            size("f = " + times(k - 1, "[") + "1" + times(k - 1, "]"), k);
        }
        size("f = [g]\ng = " + times(38, "[") + "1" + times(38, "]"), 40);
        size("f = [g]\ng = " + times(39, "[") + "1" + times(39, "]"), 41);
    }

    /** It is so for the DEFINITIONS of a let, and for nothing but DEFINITIONS. */
    private static void sizesOfLets() {
        String big = times(20, "(1,") + "1" + times(20, ")");
        String less = "[" + times(19, "(1,") + "1" + times(19, ")") + "]";
        House.fine("main = let f = " + less + " in 1");
        House.faultAt("main = let @f~ = " + big + " in 1", 8);
        House.faultAt("main = let g = 1; @f~ x = " + less + " in 1", 8);
        House.fine("main = case " + big + " of _ -> 1");
        House.fine("main = case " + big + " of x -> case x of (_, y) -> 1");
        House.fine("main = (\\x -> 1) " + big);
        House.fine("main = let f x = 1 in f " + big);
        // Written out it would be far too big, though it is told in a few signs.
        House.faultAt("p x = (x, x); q x = p (p x); r x = q (q x); @s~ x = r (q x); main = 1", 8);
    }

    /** Types that no DEFINITION has may be far greater: lists in lists, pairs in pairs, and what is told twice each time. */
    private static void farGreater() {
        String lists = "i x = " + times(37, "[") + "x" + times(37, "]") + "\n";
        String pairs = "i x = " + times(18, "(1, ") + "x" + times(18, ")") + "\n";
        String twice = "i x = (x, x)\n";
        for (String i : new String[] {lists, pairs, twice}) {
            String tower = times(35, "i (") + "@" + times(35, ")");
            String one = tower.replace("@", "1");
            House.fine(i + "main = case [" + one + ", " + one + "] of _ -> 1");
            House.fault(i + "main = case [" + one + ",\n " + tower.replace("@", "True") + "] of _ -> 1", 7, 3);
            String two = "main = case " + one + " of a -> case " + tower.replace("@", "a") + " of b -> ";
            House.fine(i + two + "case [b, b] of _ -> 1");
            House.fault(i + two + "case [b,\n" + " ".repeat(900) + "a] of _ -> 1", 7, 3);
            House.fault(i + "f x = [x,\n " + tower.replace("@", "x") + "]\nmain = 1", 7, 3);
            House.fault(i + "f x = [" + tower.replace("@", "x") + ",\n x]\nmain = 1", 7, 3);
        }
        // What is told twice each time is gone through once: what is behind it is looked at, too.
        String doubled = times(30, "i (") + "1" + times(30, ")");
        House.fine(twice + "main = case [(" + doubled + ", 1), (" + doubled + ", 2)] of _ -> 1");
        House.fault(twice + "main = case [(" + doubled + ", 1),\n (" + doubled + ", True)] of _ -> 1", 7, 3);
        // Many COPIES of one great type.
        String d = "d = (\\x -> x, " + times(11, "([], ") + "1" + times(11, ")") + ")\n";
        String row = "[d, d, d, d, d, d, d, d, d, d, d, d]";
        House.fine(d + "main = case [" + times(11, row + ", ") + row + "] of _ -> 1");
        House.fault(d + "main = case [" + times(11, row + ", ") + "\n [d, d, d,\n 1]] of _ -> 1", 7, 4);
    }

    /** "8 at a DEFINITION's NAME then": behind the 7s of its GROUP, by the order of the GROUPS. */
    private static void sizeAmongFaults() {
        String big = times(20, "(1,") + "1" + times(20, ")");
        House.faultAt("main = 1; @f~ = " + big + "; g = 1 + True", 8);
        House.faultAt("main = 1; f = case g of _ -> " + big + "\ng = 1 + @True~", 7);
        House.faultAt("main = 1; f = (case g of _ -> " + big + "); g = case f of _ -> 1 + @True~", 7);
        // Of one GROUP the first in order.
        House.faultAt("main = 1; @f~ = (case g of _ -> " + big + "); g = case f of _ -> " + big, 8);
        House.faultAt("main = 1; f = (case g of _ -> 1); @g~ = case f of _ -> " + big, 8);
        House.faultAt("main = 1; g = (case f of _ -> 1); @f~ = case g of _ -> " + big, 8);
    }

    /** "Last main's type: a FUNCTION is 7 at its NAME". */
    private static void mainLast() {
        House.faultAt(";@main~ x = x", 7);
        House.faultAt(";@main~ = \\x -> x", 7);
        House.faultAt(";@main~ = say", 7);
        House.faultAt(";@main~ = say 1", 7);
        House.faultAt("data A = A Int; @main~ = A", 7);
        House.faultAt("f x = x; @main~ = f", 7);
        House.fine("main = [\\x -> x]");
        House.fine("main = (say, say 1)");
        House.fine("data A = A (Int -> Int)\nmain = A (\\x -> x)");
        House.fine("main = main");
        House.fine("f x = f x\nmain = f 1");
        House.fine("main = 1\nf x = x");
        // Any other one comes ahead of it, and 8 at its own NAME, too.
        House.faultAt("main x = x; f = 1 + @True~", 7);
        House.faultAt("main x = x; @f~ = " + times(20, "(1,") + "1" + times(20, ")"), 8);
        House.faultAt(";@main~ x = " + times(20, "(1,") + "1" + times(20, ")"), 8);
    }

    private static void sign(String definition, String want) {
        House.due(definition, "sign", House.of(DATAS + definition + "\nmain = 1").sign(0), "f :: " + want);
    }

    /** "with ( ) around a FUNCTION ahead of ->, and around a FUNCTION or a type with parts (of DATA) that is a part of one of DATA". */
    private static void signs() {
        sign("f = 1", "Int");
        sign("f = True", "Bool");
        sign("f = A", "A");
        sign("f = B 1", "B Int");
        sign("f = C 1 True", "C Int Bool");
        sign("f = [1]", "[Int]");
        sign("f = (1, True)", "(Int,Bool)");
        sign("f x = x + 1", "Int -> Int");
        sign("f x y = x + y", "Int -> Int -> Int");
        sign("f g = g 1 + 1", "(Int -> Int) -> Int");
        sign("f g = \\x -> g 1 + x", "(Int -> Int) -> Int -> Int");
        sign("f g = g (\\x -> x + 1) + 1", "((Int -> Int) -> Int) -> Int");
        sign("f = B (\\x -> x + 1)", "B (Int -> Int)");
        sign("f = C 1 (\\x -> x + 1)", "C Int (Int -> Int)");
        sign("f = B (B 1)", "B (B Int)");
        sign("f = C (B 1) (C 1 A)", "C (B Int) (C Int A)");
        sign("f = B A", "B A");
        sign("f = B [B 1]", "B [B Int]");
        sign("f = B (B 1, A)", "B (B Int,A)");
        sign("f = B [\\x -> x + 1]", "B [Int -> Int]");
        sign("f = B (\\x -> x + 1, 1)", "B (Int -> Int,Int)");
        sign("f = [B 1]", "[B Int]");
        sign("f = (B 1, \\x -> x + 1)", "(B Int,Int -> Int)");
        sign("f = [\\x -> x + 1]", "[Int -> Int]");
        sign("f x = case x of B y -> y + 1", "B Int -> Int");
        sign("f x = B (x + 1)", "Int -> B Int");
        sign("f = B (\\x -> B (x + 1))", "B (Int -> B Int)");
        sign("f = B (\\g -> g 1 + 1)", "B ((Int -> Int) -> Int)");
        // So it is for the first DATA and for the last.
        House first = House.of("data Z a = Z a\ndata Y a = Y a\nf = Z (Z (Y (Y (Z 1))))\nmain = 1");
        House.due("first", "sign", first.sign(0), "f :: Z (Z (Y (Y (Z Int))))");
    }

    /** "its UNKNOWNS are a .. z, a1 .. z1, .., in the order in which they come there". */
    private static void unknowns() {
        sign("f x = x", "a -> a");
        sign("f x y = y", "a -> b -> b");
        sign("f x y = (y, x)", "a -> b -> (b,a)");
        sign("f = (\\y -> y, [])", "(a -> a,[b])");
        String eight = "data D a b c d e f g h = D\nmain = 1\nd = D\n";
        String[] wants = {"f :: D a b c d e f g h", "f :: (D a b c d e f g h,D i j k l m n o p)",
            "f :: (D a b c d e f g h,(D i j k l m n o p,D q r s t u v w x))",
            "f :: (D a b c d e f g h,(D i j k l m n o p,(D q r s t u v w x,D y z a1 b1 c1 d1 e1 f1)))"};
        for (int k = 0; k < wants.length; k++) {
            House house = House.of(eight + "f = " + times(k, "(d,") + "d" + times(k, ")"));
            House.due("UNKNOWNS", "sign", house.sign(2), wants[k]);
        }
        // The 26th is z, the 27th a1: 13 FUNCTIONS and more.
        House house = House.of(eight + "f x y = (d, (d, d))");
        House.due("26", "sign", house.sign(2), "f :: a -> b -> (D c d e f g h i j,(D k l m n o p q r,D s t u v w x y z))");
        House more = House.of(eight + "f x y z = (d, (d, d))");
        House.due("27", "sign", more.sign(2), "f :: a -> b -> c -> (D d e f g h i j k,(D l m n o p q r s,D t u v w x y z a1))");
    }

    /** "Sign k of what is told of DEFINITION i .. NONE if there is none such". */
    private static void signPlaces() {
        House house = House.of("ab x = x\nmain = 1");
        String[] tolds = {"ab :: a -> a", "main :: Int"};
        for (int i = -1; i <= 2; i++) {
            for (int k = -1; k <= 13; k++) {
                boolean there = i >= 0 && i < 2 && k >= 0 && k < tolds[i].length();
                House.due("places", "sign(" + i + ", " + k + ")", house.it.sign(i, k), there ? tolds[i].charAt(k) : -1);
            }
        }
        House.due("places", "sign(MIN, 0)", house.it.sign(Integer.MIN_VALUE, 0), -1);
        House.due("places", "sign(MAX, 0)", house.it.sign(Integer.MAX_VALUE, 0), -1);
        House.due("places", "sign(0, MIN)", house.it.sign(0, Integer.MIN_VALUE), -1);
        House.due("places", "sign(0, MAX)", house.it.sign(0, Integer.MAX_VALUE), -1);
        // The longest that can be: a NAME of 12, and 19 pairs in a list.
        String longest = "abcdefghijkl :: [" + times(19, "(Bool,") + "Bool" + times(19, ")") + "]";
        House big = House.of("abcdefghijkl = [" + times(19, "(True,") + "True" + times(19, ")") + "]\nmain = 1");
        House.due("longest", "sign", big.sign(0), longest);
        House.due("longest", "behind it", big.it.sign(0, longest.length()), -1);
    }

    private static void groups(String text, String want) {
        House house = House.of(text);
        StringBuilder got = new StringBuilder();
        for (int i = 0; i < house.it.count(1); i++) {
            got.append(house.it.group(i)).append(' ');
        }
        House.due(text, "groups", got.toString().trim(), want);
    }

    /** "two are in one GROUP if each uses the other, over any number of them of this BLOCK". */
    private static void groups() {
        groups("main = 1", "0");
        groups("main = main", "0");
        groups("a = 1\nmain = a", "0 1");
        groups("main = a\na = 1", "1 0");
        groups("a = b\nb = a\nmain = 1", "0 0 1");
        groups("a = b\nb = c\nc = d\nd = a\nmain = 1", "0 0 0 0 1");
        groups("a = b\nb = c\nc = d\nd = b\nmain = 1", "1 0 0 0 2");
        groups("a = b\nb = a\nc = a\nd = c\nmain = 1", "0 0 1 2 3");
        groups("c = a\na = b\nb = a\nmain = 1", "1 0 0 2");
        // Always the first that can be: with a done, x comes ahead of y.
        groups("x = a\ny = 1\na = 2\nmain = 3", "2 0 1 3");
        groups("x = a\na = 2\ny = 1\nmain = 3", "1 0 2 3");
        groups("w = y\nx = 1\ny = x\nmain = w", "2 0 1 3");
        // Over a local one it is used by the DEFINITION around.
        groups("a = let c = b in c\nb = let c = a in c\nmain = 1", "0 0 1");
        groups("a = \\b -> b\nb = a\nmain = 1", "0 1 2");
    }

    /** "In which GROUP DEFINITION i was looked at, from 0 on. NONE if there is none such". */
    private static void groupPlaces() {
        House house = House.of("a = b\nb = 1\nmain = a");
        int[] want = {-1, 1, 0, 2, -1};
        for (int i = -1; i <= 3; i++) {
            House.due("places", "group(" + i + ")", house.it.group(i), want[i + 1]);
        }
        House.due("places", "group(MIN)", house.it.group(Integer.MIN_VALUE), -1);
        House.due("places", "group(MAX)", house.it.group(Integer.MAX_VALUE), -1);
        House.due("places", "count(4)", house.it.count(4), 3);
        House.due("one", "count(4)", House.of("a = b\nb = a\nmain = a").it.count(4), 2);
    }
}
