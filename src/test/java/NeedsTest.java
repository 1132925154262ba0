/** Promise 7: strict. */
public final class NeedsTest {
    public static void main(String[] args) {
        plain();
        lets();
        calls();
        greatest();
        many();
        noneSuch();
        House.end();
    }

    /** Which PARAMETERS of the first DEFINITION are STRICT. */
    private static void needs(String text, String want) {
        House.due(text, "strict", House.of(text + "\nmain = 1").stricts(0), want);
    }

    private static void plain() {
        needs("f x = x", "1");
        needs("f x = 1", "0");
        needs("f x y = x + y", "11");
        needs("f x y z = x * (1 - y) < z", "111");
        needs("f x y = x && y", "10");
        needs("f x y = x || y", "10");
        needs("f x y z = if x then y else z", "100");
        needs("f x y = if x then y else y", "11");
        needs("f x y z = if x then y + z else z", "101");
        needs("f x y = case x of 1 -> y; _ -> y + 1", "11");
        needs("f x y = case x of 1 -> y; _ -> 1", "10");
        needs("f x y = case x of (y, _) -> y", "10");
        needs("f x y = case x of (_, _) -> y", "11");
        needs("f x y = case x of (a, _) -> a + y", "11");
        needs("f x = \\y -> x", "0");
        needs("f x = \\x -> x", "0");
        needs("f x = [x]", "0");
        needs("f x y = (x, y)", "00");
        needs("f x y = x : y", "00");
        needs("f x = case [x] of [] -> 1; y : _ -> y", "0");
    }

    private static void lets() {
        needs("f x y = let z = x in z + y", "11");
        needs("f x y = let z = x in y", "01");
        needs("f x = let a = b; b = x in a", "1");
        needs("f x = let a = b; b = x in 1", "0");
        needs("f x = let a = b + a; b = a + x in a", "1");
        needs("f x = let g a = x in g 1", "0");
        needs("f x = let x = 1 in x", "0");
        needs("f x y = let z = if x then y else y in case z of 1 -> 2", "11");
        needs("f x y = let z = y in if x then z else z + 1", "11");
    }

    private static void calls() {
        needs("f x y = say x y", "11");
        needs("f x = say x", "0");
        needs("f x y z = say x y z", "110");
        needs("f say x = say x x", "10");
        needs("f g x = g x", "10");
        needs("f g x = (g x) x", "10");
        needs("f x y = (if x then \\a -> a else \\a -> y) y", "10");
        needs("f x y = g y x\ng x y = x", "01");
        needs("f x = g x\ng x y = x + y", "0");
        needs("f x y = g x y\ng x = case x of 1 -> \\y -> y; _ -> \\y -> 2", "10");
        needs("f x y = g x y\ng x = \\y -> x + y", "00");
        needs("f x = h x\nh = \\x -> x", "0");
        needs("f x = (g) x\ng x = x", "1");
        needs("f x = g (g (x + 1))\ng x = x * x", "1");
        House.due("constructor", "strict", House.of("data P a = P a a\nf x y = P x y\ng x = P x\nh x = (P) x x\nmain = 1")
                .stricts(0), "00");
        House.due("constructor", "strict", House.of("data P a = P a a\ng x = P x\nmain = 1").stricts(0), "0");
    }

    private static void greatest() {
        needs("f x = f x", "1");
        needs("f x y = f y x", "11");
        needs("f x y = f x (f y y)", "11");
        needs("f n a = if n == 0 then a else f (n - 1) (a + n)", "11");
        needs("f n a = if n == 0 then a else f (n - 1) 1", "10");
        needs("f n a = if n == 0 then 1 else f (n - 1) a", "10");
        needs("f n a b = if n == 0 then a else f (n - 1) b a", "100");
        needs("f n a b = if n == 0 then a + b else f (n - 1) b a", "111");
        needs("f n a = n == 0 || g (n - 1) a\ng n a = n /= 0 && f (n - 1) a", "10");
        needs("f n a = if n == 0 then a else g n a\ng n a = f (n - 1) a", "11");
        needs("f x y = g x y\ng x y = f y x", "11");
        needs("f x y = if True then g x y else y\ng x y = if True then f y x else x", "00");
    }

    /** Names beyond the 64th and the 128th are told apart, too. */
    private static void many() {
        StringBuilder text = new StringBuilder("main = 1\n");
        for (int k = 0; k < 33; k++) {
            text.append("d").append(k).append(" a b c d = case (let e = c in a) of d -> d\n");
        }
        House house = House.of(text.toString());
        for (int k = 0; k < 33; k++) {
            House.due("many " + k, "strict", house.stricts(k + 1), "1000");
        }
        StringBuilder chain = new StringBuilder("main = 1\n");
        for (int k = 0; k < 50; k++) {
            chain.append("d").append(k).append(" a b c = d").append((k + 1) % 50).append(" c a b\n");
        }
        House all = House.of(chain.toString());
        for (int k = 0; k < 50; k++) {
            House.due("chain " + k, "strict", all.stricts(k + 1), "111");
        }
        House one = House.of(chain.toString().replace("d49 a b c = d0 c a b", "d49 a b c = b"));
        for (int k = 0; k < 50; k++) {
            String want = k % 3 == 1 ? "010" : k % 3 == 0 ? "100" : "001";
            House.due("chain to one " + k, "strict", one.stricts(k + 1), want);
        }
    }

    private static void noneSuch() {
        House house = House.of("f x y = x\nmain = f 1 2");
        House.due("strict", "strict(0, 0)", house.it.strict(0, 0), 1);
        House.due("strict", "strict(0, 1)", house.it.strict(0, 1), 0);
        House.due("strict", "strict(0, 2)", house.it.strict(0, 2), -1);
        House.due("strict", "strict(0, -1)", house.it.strict(0, -1), -1);
        House.due("strict", "strict(1, 0)", house.it.strict(1, 0), -1);
        House.due("strict", "strict(2, 0)", house.it.strict(2, 0), -1);
        House.due("strict", "strict(-1, 0)", house.it.strict(-1, 0), -1);
        House.due("strict", "strict(MAX, MAX)", house.it.strict(Integer.MAX_VALUE, Integer.MAX_VALUE), -1);
    }
}
