/** The edges of the faults of names: 4, 5 and 6, and of what comes ahead of and behind them. */
public final class NameEdgesTest {
    public static void main(String[] args) {
        typesTwice();
        constructorsTwice();
        definitionsTwice();
        sayTwice();
        rowsTwice();
        namesThatMeanNothing();
        namesOfTypes();
        consThatAreNone();
        withoutMain();
        namesOfPatterns();
        atomsOfTypes();
        wholeBlock();
        ownEs();
        nearest();
        firstToken();
        leastOfOneToken();
        manyNames();
        behindTheText();
        House.end();
    }

    /** "4 a CON told as a type for the second time (Int, Bool are told)". */
    private static void typesTwice() {
        House.fine("data A = B\ndata C = D\nmain = 1");
        House.faultAt("data A = B; data @A~ = D; main = 1", 4);
        House.faultAt("data A = B; data C = D; data @A~ = E; main = 1", 4);
        House.faultAt("data @Int~ = B; main = 1", 4);
        House.faultAt("data @Bool~ = B; main = 1", 4);
        // A type and a constructor may be named alike, and False is no type.
        House.fine("data A = A\ndata B = C A\nmain = A");
        House.fine("data False = F\nmain = 1");
        House.fine("data True = T\nmain = 1");
        House.fine("data Ints = B\nmain = 1");
    }

    /** "or as a constructor (False, True are)". */
    private static void constructorsTwice() {
        House.faultAt("data A = B | @B~; main = 1", 4);
        House.faultAt("data A = B | C | @B~; main = 1", 4);
        House.faultAt("data A = B; data C = @B~; main = 1", 4);
        House.faultAt("data A = B Int; data C = @B~ Int; main = 1", 4);
        House.faultAt("data A = @False~; main = 1", 4);
        House.faultAt("data A = B | @True~; main = 1", 4);
        House.fine("data A = Int | Bool\nmain = 1");
        House.fine("data A = B | C\ndata D = E | F\nmain = 1");
    }

    /** "a NAME of a DEFINITION told before in the same BLOCK". */
    private static void definitionsTwice() {
        House.faultAt("main = 1; @main~ = 1", 4);
        House.faultAt("f x = 1; main = 1; @f~ y = 1", 4);
        House.faultAt("f = 1; @f~ y = 1; main = 1", 4);
        House.faultAt("main = let x = 1; @x~ = 2 in x", 4);
        House.faultAt("main = let x = 1; y = 2; @x~ z = 2 in y", 4);
        // In another BLOCK it may.
        House.shows("main = let main = 1 in main", "1");
        House.shows("x = 1\nmain = let x = 2 in let x = 3 in x", "3");
        House.shows("main = (let x = 1 in x, let x = 2 in x)", "(1,2)");
        House.shows("main = let x = let x = 4 in x in x", "4");
    }

    /** "(say, too, in the PROGRAM)". */
    private static void sayTwice() {
        House.faultAt("@say~ = 1; main = 1", 4);
        House.faultAt("main = 1; @say~ x y = y", 4);
        House.shows("main = let say x y = x in say 5 6", "5");
        House.shows("f say = say + 1\nmain = f 4", "5");
        House.shows("main = (\\say -> say) 5", "5");
        House.shows("main = case 5 of say -> say", "5");
        House.fine("says = 1\nmain = says");
    }

    /** "one of PARAMETERS, \, DATA, a PATTERN that was there in the same row". */
    private static void rowsTwice() {
        House.faultAt("f x @x~ = 1; main = 1", 4);
        House.faultAt("f x y @x~ = 1; main = 1", 4);
        House.faultAt("main = let f x @x~ = 1 in 1", 4);
        House.faultAt("main = (\\x @x~ -> 1) 1 2", 4);
        House.faultAt("main = (\\x y z @y~ -> 1) 1 2 3 4", 4);
        House.faultAt("data A a @a~ = B; main = 1", 4);
        House.faultAt("data A a b @a~ = B; main = 1", 4);
        House.faultAt("main = case [1] of x : @x~ -> 1", 4);
        House.faultAt("main = case (1, 2) of (x , @x~ ) -> 1", 4);
        House.faultAt("data A = B Int Int Int; main = case B 1 2 3 of B x y @x~ -> 1", 4);
        // Other rows, and _, may.
        House.shows("f x = \\x -> case x of x -> let x = 4 in x\nmain = f 1 2", "4");
        House.fine("data A a = B a\ndata C a = D a\nmain = 1");
        House.fine("main = case (1, 2) of (_, _) -> case [1] of _ : _ -> 1");
        House.shows("main = case 3 of 1 -> 2; x -> case 4 of x -> x", "4");
        House.shows("f f = f\nmain = f 3", "3");
        House.shows("x = 1\nf x = x\nmain = f 2", "2");
    }

    /** "5 a NAME of an E that means nothing". */
    private static void namesThatMeanNothing() {
        House.faultAt("main = @x~", 5);
        House.faultAt("main = main @x~", 5);
        House.faultAt("main = 1 + @x~", 5);
        House.faultAt("main = (\\y -> @x~) 1", 5);
        House.faultAt("main = [1, @x~]", 5);
        House.faultAt("main = case @x~ of 1 -> 2", 5);
        House.faultAt("main = let y = @x~ in 1", 5);
        House.faultAt("main = if True then 1 else @x~", 5);
        House.faultAt("data A a = B a; main = @a~", 5);
        House.fine("main = say 1 2");
    }

    /** "a type's NAME that is not one of its DATA". */
    private static void namesOfTypes() {
        House.faultAt("data A = B @a~; main = 1", 5);
        House.faultAt("data A a = B a | C @b~; main = 1", 5);
        House.faultAt("data A a = B a; data C b = D @a~; main = 1", 5);
        House.faultAt("data A a = B (Int -> [( a , @b~ )]); main = 1", 5);
        House.faultAt("x = 1; data A = B @x~; main = 1", 5);
        House.fine("data A a = B a\ndata C b = D b\nmain = 1");
    }

    /** "a CON that is no constructor (in E, PATTERN), no type (in DATA)". */
    private static void consThatAreNone() {
        House.faultAt("main = @X~", 5);
        House.faultAt("main = @Int~", 5);
        House.faultAt("data A = B; main = @A~", 5);
        House.faultAt("main = case 1 of @X~ -> 1", 5);
        House.faultAt("main = case 1 of @Bool~ -> 1", 5);
        House.faultAt("data A = B; main = case B of @A~ -> 1", 5);
        House.faultAt("data A = B @X~; main = 1", 5);
        House.faultAt("data A = B @B~; main = 1", 5);
        House.faultAt("data A = B @True~; main = 1", 5);
        House.faultAt("data A = B [( Int , @X~ )]; main = 1", 5);
        House.fine("data A = B Int Bool A\nmain = case True of False -> 1");
        // What DATA tell may stand ahead of them.
        House.fine("main = case B of B -> D\ndata A = B\ndata C = C A D\ndata D = D");
    }

    /** "in a PROGRAM without main: 5 at the end". */
    private static void withoutMain() {
        House.faultAt("@", 5);
        House.faultAt("x = 1@", 5);
        House.faultAt("mains = 1; mai = 2@", 5);
        House.faultAt("x = let main = 1 in main@", 5);
        House.faultAt("f main = main@", 5);
        House.faultAt("data Main = Main@", 5);
        House.fine("x = 1; main = 2");
        House.fine("main = 2; x = 1");
        // Any other one comes ahead of it.
        House.faultAt("x = @y~", 5);
        House.faultAt("x = 1; @x~ = 2", 4);
        House.faultAt("x = case 1 of @True~ y -> 1", 6);
    }

    /** "6 (at the CON) a PATTERN with another number of NAMES than the constructor has fields". */
    private static void namesOfPatterns() {
        String data = "data A = B0 | B1 Int | B3 Int Int Int; main = case B0 of ";
        String[] names = {"", " a", " a _", " _ b _", " a b c d"};
        int[] fields = {0, 1, 3};
        for (int many : fields) {
            for (int n = 0; n < names.length; n++) {
                if (n == many) {
                    House.fine(data + "B" + many + names[n] + " -> 1");
                } else {
                    House.faultAt(data + "@B" + many + "~" + names[n] + " -> 1", 6);
                }
            }
        }
        House.faultAt("main = case True of @True~ x -> 1", 6);
        House.faultAt("main = case True of @False~ _ -> 1", 6);
        House.fine("main = case True of True -> 1; False -> 2");
        // A CALL of a constructor has any number of ARGUMENTS, as far as names go.
        House.fine(data + "_ -> case [B3 1] of _ -> 1");
        House.fine("data A = B Int Int\nf = B\ng = B 1\nh = B 1 2\nmain = 1");
    }

    /** "a type with another number of TYPE-ATOMS than its DATA has NAMES". */
    private static void atomsOfTypes() {
        String data = "data A0 = A0; data A1 a = A1; data A2 a b = A2; main = 1; data X = X ( ";
        String[] atoms = {"", " Int", " Int Bool", " Int Bool Int"};
        for (int many = 0; many <= 2; many++) {
            for (int n = 0; n < atoms.length; n++) {
                if (n == many) {
                    House.fine(data + "A" + many + atoms[n] + ")");
                } else {
                    House.faultAt(data + "@A" + many + "~" + atoms[n] + ")", 6);
                }
            }
        }
        House.faultAt("data A = B ( @Int~ Int ); main = 1", 6);
        House.faultAt("data A = B ( @Bool~ Int ); main = 1", 6);
        // A CON that is a TYPE-ATOM has none.
        House.faultAt("data A a = B @A~; main = 1", 6);
        House.faultAt("data A a = B [ @A~ ]; main = 1", 6);
        House.faultAt("data A a = B ( A @A~ ); main = 1", 6);
        House.faultAt("data A a = B ( @A~ -> Int ); main = 1", 6);
        House.faultAt("data A a = B ( Int -> @A~ ); main = 1", 6);
        House.faultAt("data A a = B ( Int , @A~ a a ); main = 1", 6);
        House.fine("data A a = B (A (A a)) [A Int] (A a, A Bool) (A a -> A a)\nmain = 1");
    }

    /** "All NAMES of a BLOCK mean something in all of it". */
    private static void wholeBlock() {
        House.shows("main = a\na = b\nb = 3", "3");
        House.shows("main = let a = b; b = c; c = 3 in a", "3");
        House.shows("main = let a = (case 1 of _ -> \\x -> b); b = 3 in a 1", "3");
        House.fault("main = let a = 1 in a\nb = a", 5, 2);
        House.faultAt("main = (let a = 1 in a) + @a~", 5);
        House.faultAt("main = let a = let b = 1 in b; c = @b~ in a", 5);
    }

    /** "a PARAMETER, a PATTERN's NAME its E". */
    private static void ownEs() {
        House.faultAt("f x = x; main = @x~", 5);
        House.faultAt("main = let f x = x; y = @x~ in 1", 5);
        House.faultAt("main = (\\x -> x) @x~", 5);
        House.faultAt("main = case @x~ of x -> 1", 5);
        House.faultAt("main = case 1 of x -> x; y -> @x~", 5);
        House.faultAt("main = case 1 of 1 -> @x~; x -> x", 5);
        House.faultAt("main = case [1] of x : y -> y; _ -> @y~", 5);
        House.shows("f x y = let g z = x + y + z in g 1\nmain = f 2 3", "6");
        House.shows("main = case (1, 2) of (x, y) -> case [x] of z : _ -> (\\w -> x + y + z + w) 1", "5");
    }

    /** "what is nearest counts". */
    private static void nearest() {
        House.shows("x = 1\nmain = let x = 2 in (\\x -> case x + 1 of x -> let x = 9 in x) 3", "9");
        House.shows("x = 1\nmain = let x = 2 in (\\x -> case x + 1 of x -> x) 3", "4");
        House.shows("x = 1\nmain = let x = 2 in (\\x -> x) 3", "3");
        House.shows("x = 1\nmain = let x = 2 in (\\y -> x) 3", "2");
        House.shows("x = 1\nmain = let y = 2 in (\\y -> x) 3", "1");
        House.shows("f main = main\nmain = f 3", "3");
    }

    /** "of those the one whose token comes first". */
    private static void firstToken() {
        String[] four = {"; @main~ = 1", "data @Int~ = R", "data R = @True~", "f x @x~ = 1"};
        String[] five = {"a = @q~", "a = @Q~", "data Z = Y @y~", "data Z = Y @Q~", "a = case 1 of @Q~ -> 1"};
        String[] six = {"b = case True of @True~ x -> 1", "data W = W ( @Int~ Int )"};
        String[][] all = {four, five, six};
        for (int one = 0; one < 3; one++) {
            for (int other = 0; other < 3; other++) {
                for (String first : all[one]) {
                    for (String second : all[other]) {
                        if (one != other) {
                            House.faultAt("main = 1\n" + first + "\n" + second.replace("@", "").replace("~", ""), 4 + one);
                        }
                    }
                }
            }
        }
        // Not the one that is looked at first: a DATA, or a NAME that is told, behind an E.
        House.faultAt("main = @q~; data A = B | B", 5);
        House.faultAt("main = @q~; data A = B Q", 5);
        House.faultAt("f x = @q~ ; g x x = 1; main = 1", 5);
        House.faultAt("main = let y = @q~; y = 1 in 1", 5);
        House.faultAt("main = case 1 of True -> @q~; True x -> 1", 5);
        House.faultAt("data A = B @Q~; data A = C; main = 1", 5);
    }

    /** "of one token the least": a CON that is no type has no number of NAMES either. */
    private static void leastOfOneToken() {
        House.faultAt("data A = B ( @Q~ Int Int ); main = 1", 5);
        House.faultAt("main = case 1 of @Q~ x y -> 1", 5);
        House.faultAt("x = 1; @x~ = q", 4);
        House.faultAt("data A a @a~ = B c; main = 1", 4);
    }

    /** All of more than a thousand NAMES are told apart: 4 there is none, and they are too many for a DATA. */
    private static void manyNames() {
        StringBuilder text = new StringBuilder("data A");
        String second = "abcdefghijklmnopqrstuvwxyzABCDEFGHIJKLMNOPQRSTUVWXYZ0123456789";
        for (char first = 'a'; first <= 't'; first++) {
            for (char c : second.toCharArray()) {
                String name = "" + first + c;
                text.append(name.equals("if") || name.equals("in") || name.equals("of") ? "" : " " + name);
            }
        }
        House.fault(text + "=B\nmain=1", 8, 0);
        House.fault(text + "\n t9=B\nmain=1", 4, 2);
        House.fault(text + "\n aa=B\nmain=1", 4, 2);
        House.fault(text + "=B\n ua\nmain=1", 5, 2);
        House.fault(text + "=B\n t9\nmain=1", 8, 0);
        manyNamesOfThree();
    }

    /** 900 NAMES without any order. */
    private static void manyNamesOfThree() {
        String letters = "abcdefghijklmnopqrstuvwxyz";
        for (int round = 0; round < 4; round++) {
            java.util.Set<String> names = new java.util.LinkedHashSet<>();
            for (long seed = round; names.size() < 900; seed = seed * 6364136223846793005L + 1442695040888963407L) {
                int k = (int) (seed >>> 33) % (26 * 26 * 26);
                String name = "" + letters.charAt(k % 26) + letters.charAt(k / 26 % 26) + letters.charAt(k / 676);
                if (!name.equals("let")) {
                    names.add(name);
                }
            }
            House.fault("data A " + String.join(" ", names) + "=B\nmain=1", 8, 0);
        }
    }

    /** "First the text"; "Then the names", whatever their lines. */
    private static void behindTheText() {
        House.faultAt("main = q; main = 2 @)", 2);
        House.faultAt("main = q; x = @#", 1);
        House.faultAt("main = q; x = 1 +@", 2);
        House.fault(" main = q\nx", 3, 2);
        House.faultAt("main = q; x = " + "(".repeat(40) + "@1", 8);
        // Names ahead of limits and types.
        House.faultAt("x = 1 1; y = [1,1,1,1,1,1,1,1,1,1,1,1,1]; main = @q~", 5);
        House.fault("x = 1 1\ny = [1,1,1,1,1,1,1,1,1,1,1,1,1]\nmain = 1", 8, 0);
        House.fault("x = 1 1\ny = [1,1,1,1,1,1,1,1,1,1,1,1]\nmain = 1", 7, 1);
    }
}
