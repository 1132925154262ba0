/** Promises 4 (kinds 7 and 8 of types), 6 (sign) and 8 (group). */
public final class TypesTest {
    public static void main(String[] args) {
        signs();
        unknowns();
        noSuchSign();
        copies();
        faults();
        faultsOfCases();
        faultsOfDefinitions();
        whole();
        big();
        groups();
        House.end();
    }

    private static void sign(String definition, String want) {
        House.due(definition, "sign", House.of(definition + "\nmain = 1").sign(0), want);
    }

    private static void dataSign(String definition, String want) {
        String datas = "data T = T\ndata P a b = P a b | Q (P a (a -> b)) | F (a -> b)\ndata O a = N | O a\nmain = 1\n";
        House.due(definition, "sign", House.of(datas + definition).sign(1), want);
    }

    private static void signs() {
        sign("f = 1", "f :: Int");
        sign("f = 1 < 2", "f :: Bool");
        sign("f = True", "f :: Bool");
        sign("f = []", "f :: [a]");
        sign("f = [1]", "f :: [Int]");
        sign("f = [[True]]", "f :: [[Bool]]");
        sign("f = (1, [])", "f :: (Int,[a])");
        sign("f x = x", "f :: a -> a");
        sign("f x y = x", "f :: a -> b -> a");
        sign("f = \\x -> \\y -> y", "f :: a -> b -> b");
        sign("f g x = g (g x)", "f :: (a -> a) -> a -> a");
        sign("f g x y = g x y", "f :: (a -> b -> c) -> a -> b -> c");
        sign("f g = g (\\x -> x + 1)", "f :: ((Int -> Int) -> a) -> a");
        sign("f = [\\x -> x]", "f :: [a -> a]");
        sign("f = (\\x -> x, \\x y -> x)", "f :: (a -> a,b -> c -> b)");
        sign("f = say", "f :: Int -> a -> a");
        sign("f = say 1", "f :: a -> a");
        sign("f x = f x", "f :: a -> b");
        sign("f x y = x : y", "f :: a -> [a] -> [a]");
        sign("f p = case p of (a, b) -> (b, a)", "f :: (a,b) -> (b,a)");
        sign("f x = if x then 1 else 2", "f :: Bool -> Int");
        sign("f x y = x && y", "f :: Bool -> Bool -> Bool");
        sign("longlonglong x = x / 1", "longlonglong :: Int -> Int");
        dataSign("f = T", "f :: T");
        dataSign("f = P 1 T", "f :: P Int T");
        dataSign("f = P", "f :: a -> b -> P a b");
        dataSign("f = Q", "f :: P a (a -> b) -> P a b");
        dataSign("f = F", "f :: (a -> b) -> P a b");
        dataSign("f = O (O 1)", "f :: O (O Int)");
        dataSign("f = O [O 1]", "f :: O [O Int]");
        dataSign("f = O (O T, 1)", "f :: O (O T,Int)");
        dataSign("f = P (O T) (\\x -> x + 1)", "f :: P (O T) (Int -> Int)");
        dataSign("f = O T", "f :: O T");
        dataSign("f x = case x of O y -> y", "f :: O a -> a");
        dataSign("f x = case x of P a b -> a + 1; Q p -> 2; F g -> 3", "f :: P Int a -> Int");
    }

    private static void unknowns() {
        sign("f a b c d e f g h = ([], [[]])", "f :: a -> b -> c -> d -> e -> f -> g -> h -> ([i],[[j]])");
        sign("f a b c = ((c, b), a)", "f :: a -> b -> c -> ((c,b),a)");
        House.due("25 UNKNOWNS", "sign", House.of("data D a b c d e f g h = D\n"
                + "f = \\x -> (g, (g, g))\ng = D\nmain = 1").sign(0), "f :: a -> (D b c d e f g h i,(D j k l m n o p q,"
                + "D r s t u v w x y))");
        House.due("28 UNKNOWNS", "sign", House.of("data D a b c d e f g = D\n"
                + "g = (D, (D, (D, D)))\nmain = 1").sign(0), "g :: (D a b c d e f g,(D h i j k l m n,"
                + "(D o p q r s t u,D v w x y z a1 b1)))");
    }

    private static void noSuchSign() {
        House house = House.of("x = 1\nmain = x");
        House.due("sign", "sign(0, 0)", house.it.sign(0, 0), 'x');
        House.due("sign", "sign(1, 3)", house.it.sign(1, 3), 'n');
        House.due("sign", "sign(0, 7)", house.it.sign(0, 7), 't');
        House.due("sign", "sign(0, 8)", house.it.sign(0, 8), -1);
        House.due("sign", "sign(0, -1)", house.it.sign(0, -1), -1);
        House.due("sign", "sign(2, 0)", house.it.sign(2, 0), -1);
        House.due("sign", "sign(-1, 0)", house.it.sign(-1, 0), -1);
        House.due("sign", "sign(MAX)", house.it.sign(Integer.MAX_VALUE, 0), -1);
        House.due("sign", "sign(0, MIN)", house.it.sign(0, Integer.MIN_VALUE), -1);
    }

    private static void copies() {
        House.shows("i x = x\nmain = (i 1, i True)", "(1,True)");
        House.shows("main = let i = \\x -> x in (i 1, i True)", "(1,True)");
        House.shows("main = let i x = x in (i 1, i True)", "(1,True)");
        // A PARAMETER has one type, and what stands in its type is not FREE in a let.
        House.fault("main = (\\i ->\n (i 1, i\n True)) (\\x -> x)", 7, 3);
        House.fault("f x = let y = x in (y + 1,\n y && True)\nmain = 1", 7, 2);
        sign("f x = let y = x in (y, y)", "f :: a -> (a,a)");
        sign("f x = let g y = (x, y) in (g 1, g True)", "f :: a -> ((a,Int),(a,Bool))");
        sign("f x = case x of (a, b) -> let c = a in (c, b)", "f :: (a,b) -> (a,b)");
        // Within a GROUP there are no COPIES.
        House.fault("f x = x\nmain = g 1\ng y = (h\n True, h\n 2)\nh z = case 1 of 1 -> z; _ -> case g 1 of _ -> z", 7, 5);
        House.fine("g y = (h True, h 2)\nh z = z\nmain = 1");
        House.fault("f x = let g = f in case 1 of 1 -> x; 2 -> (case g 1 of _ -> case g\n"
                + " ".repeat(80) + "True of _ -> x)\nmain = 1", 7, 2);
        sign("f x y = let g z = (z, y) in (g, let h w = (x, w) in h)", "f :: a -> b -> (c -> (c,b),d -> (a,d))");
    }

    private static void faults() {
        House.fault("main = 1 +\n True", 7, 2);
        House.fault("main = True\n + (1 && 2)", 7, 1);
        House.fault("main = 1 + (2 +\n (\n True))", 7, 2);
        House.fault("main = 1 &&\n True", 7, 1);
        House.fault("main = True ||\n 1", 7, 2);
        House.fault("main = True\n == True", 7, 1);
        House.fault("main = 1\n + (1 < 2)", 7, 2);
        House.fault("main = 1 :\n 2", 7, 2);
        House.fault("main = 1 :\n True :\n []", 7, 2);
        House.fault("main = True :\n 1 :\n 2", 7, 3);
        House.fault("main = [1,\n 2,\n True]", 7, 3);
        House.fault("main = 1\n 2", 7, 2);
        House.fault("f x = x + 1\nmain = f\n 1\n 2", 7, 4);
        House.fault("main = say\n True\n 1", 7, 2);
        House.fault("main = if\n 1\n then 2 else True", 7, 2);
        House.fault("main = if True\n then 1\n else\n True", 7, 4);
        House.fault("main = (\\x -> x\n x) 1", 7, 2);
        House.fault("main = (\n 1 +\n True)", 7, 3);
        House.fault("main = True : [\n 1]", 7, 1);
        // No UNKNOWN stands in what it becomes, in whichever part.
        House.fault("f x = [x,\n (x, 1)]\nmain = 1", 7, 2);
        House.fault("f x = [x,\n (1, x)]\nmain = 1", 7, 2);
        House.fault("f x = [x,\n [x]]\nmain = 1", 7, 2);
        House.fault("f x = [x,\n \\y -> x]\nmain = 1", 7, 2);
        House.fault("f x = [x,\n \\y -> case [x, y] of _ -> 1]\nmain = 1", 7, 2);
        House.fault("f x y = [(x, y),\n (y, [x])]\nmain = 1", 7, 2);
        House.fault("data D a b = D a b\nf x = [x,\n D 1 x]\nmain = 1", 7, 3);
        sign("f x y = [(x, y), (y, x)]", "f :: a -> a -> [(a,a)]");
        House.fault("data A = B Int\nmain = B\n True", 7, 3);
        House.fault("data A a = B a a\nmain = B 1\n True", 7, 3);
        House.fault("data A = B (Int -> Int)\nmain = B\n 1", 7, 3);
        House.fault("data A = B\ndata C = D\nmain = [B,\n D]", 7, 4);
        // From left to right: the first that can't be.
        House.fault("main = (1 + (2\n + True),\n 1 + True)", 7, 2);
    }

    private static void faultsOfCases() {
        House.fault("main = case 1 of\n 1 -> 2\n True -> 3", 7, 3);
        House.fault("main = case 1 of\n 1 -> 2\n x ->\n  True", 7, 4);
        House.fault("main = case [] of\n (a, b) -> 1", 7, 2);
        House.fault("main = case [1] of\n x : y -> x + \n   y", 7, 3);
        House.fault("main = case 1 of\n [] -> 1", 7, 2);
        House.fault("main = case (1,True) of\n (x, y) -> y + 1", 7, 2);
        House.fault("data A a = B a | C\nmain = case B 1 of\n B x -> case x of\n  True -> 1", 7, 4);
        House.shows("main = case (1,True) of\n  (x, y) -> case y of\n    False -> 0\n    True -> x", "1");
    }

    private static void faultsOfDefinitions() {
        House.fault("\nf\n x = f\nmain = 1", 7, 2);
        House.fault("f x = g x + 1\ng x = f\nmain = 1", 7, 2);
        House.fault("main = 1\nf = g\n True\ng x = x + 1", 7, 3);
        // GROUPS in their order: g is looked at ahead of main, and h ahead of both.
        House.fault("main = g\n True +\n True\ng x = h x + 1\nh x = x &&\n x", 7, 4);
        House.fault("main = let f x = x + 1 in f\n True", 7, 2);
        House.fault("main = let f x = x + 1\n           g = f True\n       in 1 + True", 7, 2);
        House.fault("main = let g = f True\n           f x = x + 1\n       in 1 + True", 7, 1);
    }

    private static void whole() {
        House.fault("\nmain x = x", 7, 2);
        House.fault("\nmain =\n \\x -> x", 7, 2);
        House.fault("f x y = x\nmain = f 1", 7, 2);
        House.fault("main = say", 7, 1);
        House.fine("main = main");
        House.shows("main = [\\x -> x]", "[fun]");
        // It is looked at last.
        House.fault("main x = x\nf = 1 + True", 7, 2);
    }

    private static void big() {
        // k pairs and k + 1 numbers in a list: 2 k + 2.
        House.fine("main = 1\nf = [" + "(1,".repeat(19) + "1" + ")".repeat(19) + "]");
        House.fault("main = 1\nf = " + "(1,".repeat(20) + "1" + ")".repeat(20), 8, 2);
        House.fault("main = 1\np x = (x, x)\nq x = p (p x)\nr x = q (p x)\ns x = r (p x)\nt x = s (p x)", 8, 6);
        House.fault("main = let p x = (x, x)\n           q x = p (p (p x))\n           r x = q (q (q x)) in 1", 8, 3);
        // 8 of a GROUP comes behind its 7.
        House.fault("main = 1\nf = " + "(1,".repeat(20) + "1" + ")".repeat(20) + "\ng = 1\n + True", 8, 2);
        House.fault("main = 1\nf = " + "(1,".repeat(20) + "1\n + True" + ")".repeat(20), 7, 3);
    }

    private static void groups(String text, String want) {
        House house = House.of(text);
        StringBuilder got = new StringBuilder();
        for (int i = 0; house.it.group(i) >= 0; i++) {
            got.append(house.it.group(i)).append(' ');
        }
        House.due(text, "group", got.toString().trim(), want);
    }

    private static void groups() {
        groups("main = 1", "0");
        groups("a = 1\nb = 2\nmain = 3", "0 1 2");
        groups("a = b\nb = c\nc = 1\nmain = a", "2 1 0 3");
        groups("main = a\na = 1\nb = 2", "1 0 2");
        groups("b = 1\nmain = a\na = 1", "0 2 1");
        groups("even n = n == 0 || odd (n - 1)\nx = y\nodd n = n /= 0 && even (n - 1)\ny = 1\nmain = x", "0 2 0 1 3");
        groups("a = b + z\nb = c\nc = a\nz = 1\nmain = c", "1 1 1 0 2");
        groups("a a = a 1\nb = a\nmain = 1", "0 1 2");
        groups("a = let b = 1 in b\nb = a\nmain = 1", "0 1 2");
        groups("a = let c = b in c\nb = 1\nmain = 1", "1 0 2");
        groups("a x = case x of b -> b\nb = a\nmain = 1", "0 1 2");
        House house = House.of("a = 1\nb = a\nmain = 3");
        House.due("groups", "count(4)", house.it.count(4), 3);
        House.due("groups", "group(-1)", house.it.group(-1), -1);
        House.due("groups", "group(3)", house.it.group(3), -1);
        House.due("groups", "group(MIN)", house.it.group(Integer.MIN_VALUE), -1);
    }
}
