/** The edges of "Terms", GRAMMAR, and of the faults of the text: 1, 2, 3 and 8, token by token. */
public final class GrammarEdgesTest {
    private static final String[] TESTS = {"==", "/=", "<", "<=", ">", ">="};
    /** Signs of which there may be several: those of OR, AND, ROW, SUM and PRODUCT. */
    private static final String[] CHAINS = {"||", "&&", ":", "+", "-", "*", "/", "%"};
    private static final String[] WORDED = {"\\x -> x", "let x = 1 in x", "if True then 1 else 2", "case 1 of x -> x"};

    public static void main(String[] args) {
        program();
        data();
        types();
        definitions();
        lambdas();
        wordedLast();
        oneTest();
        brackets();
        patterns();
        blocksWithoutItems();
        endOfText();
        firstToken();
        leastOfOneToken();
        depthOfEs();
        depthOfTypes();
        depthPlaces();
        operands();
        operandsOfEach();
        House.end();
    }

    private static String times(int n, String what) {
        return what.repeat(n);
    }

    /** "PROGRAM: ITEMS that are DATA or DEFINITIONS (or empty)". */
    private static void program() {
        for (String first : new String[] {"1", "A", "(x) = 1", "[", "\\x", "_", "if", "case", "let", "- 1", "= 1", "| 1"}) {
            House.faultAt("main = 1; @" + first, 2);
        }
        House.fine("data A = B; main = 1");
        House.fine("main = 1; data A = B");
        House.faultAt("main = let @data~ A = B in 1", 2);
        House.faultAt("main = case 1 of @data~ A = B", 2);
    }

    /** "DATA: data CON NAMES = ALTERNATIVES with | between; ALTERNATIVE: CON TYPE-ATOMS". */
    private static void data() {
        House.fine("data A = B\nmain = 1");
        House.fine("data A a = B\nmain = 1");
        House.fine("data A a b = B a | C b a | D\nmain = 1");
        House.faultAt("data @a = B", 2);
        House.faultAt("data @= B", 2);
        House.faultAt("data A @B = C", 2);
        House.faultAt("data A @1 = C", 2);
        House.faultAt("data A a @| B", 2);
        House.faultAt("data A = @b", 2);
        House.faultAt("data A = @| B", 2);
        House.faultAt("data A = B | @| C", 2);
        House.faultAt("data A = B |@", 2);
        House.faultAt("data A =@", 2);
        House.faultAt("data A@", 2);
        House.faultAt("data@", 2);
        House.faultAt("data A = B @-> C", 2);
        House.faultAt("data A = B @= C", 2);
        House.faultAt("data A = B @1", 2);
        House.faultAt("data A @_~ = B", 2);
        House.fault("data A\n = B |\nC", 2, 3);
        House.fault("data A = B Int\nInt\nmain = 1", 2, 2);
    }

    /** "TYPE: TYPE-CALL, perhaps -> TYPE", "TYPE-ATOM: CON, NAME, ( TYPE ), ( TYPE , TYPE ), [ TYPE ]". */
    private static void types() {
        House.fine("data A a = B (Int) (Int, a) [a] (Int -> a) ((Int -> Int) -> a) (A (A a))\nmain = 1");
        House.faultAt("data A = B (@)", 2);
        House.faultAt("data A = B [@]", 2);
        House.faultAt("data A = B (Int -> @)", 2);
        House.faultAt("data A = B (@-> Int)", 2);
        House.faultAt("data A = B (Int, @)", 2);
        House.faultAt("data A = B (@, Int)", 2);
        House.faultAt("data A = B (Int, Int @, Int)", 2);
        House.faultAt("data A = B [Int @, Int]", 2);
        House.faultAt("data A a = B (a @a)", 2);
        House.faultAt("data A a = B ([a] @a)", 2);
        House.faultAt("data A a = B (@1)", 2);
        House.faultAt("data A a = B (@_)", 2);
        House.faultAt("data A = B (Int@", 2);
        House.faultAt("data A = B (Int @]", 2);
        // A TYPE-ATOM takes one CON alone: A Int is two fields here.
        House.due("two fields", "sign", House.of("data A = B Int Bool\nf = B\nmain = 1").sign(0), "f :: Int -> Bool -> A");
        House.fault("data A a = B\n A Int\nmain = 1", 6, 2);
    }

    /** "DEFINITION: NAME PARAMETERS = E (PARAMETERS: NAMES, any number)". */
    private static void definitions() {
        House.shows("main = 1", "1");
        House.shows("f x = x\nmain = f 1", "1");
        House.faultAt("main@", 2);
        House.faultAt("main x@", 2);
        House.faultAt("main =@", 2);
        House.faultAt("main = 1; f @1 = 2", 2);
        House.faultAt("main = 1; f @_ = 2", 2);
        House.faultAt("main = 1; f @A = 2", 2);
        House.faultAt("main = 1; f @(x) = 2", 2);
        House.faultAt("main = 1; f @-> 2", 2);
        House.faultAt("main = 1 @= 2", 2);
        House.faultAt("main = 1; f = @; g = 2", 2);
        House.fault("main =\nx = 1", 2, 2);
        House.fault("main\n= 1", 2, 2);
        House.faultAt("main = let x @in~ x", 2);
        House.faultAt("main = let x = @in~ x", 2);
    }

    /** "\ NAMES -> E (one at least)". */
    private static void lambdas() {
        House.faultAt("main = (\\ @-> 1) 1", 2);
        House.shows("main = (\\x -> 1) 1", "1");
        House.shows("main = (\\x y -> 1) 1 2", "1");
        House.faultAt("main = \\x@", 2);
        House.faultAt("main = \\x ->@", 2);
        House.faultAt("main = \\x @= 1", 2);
        House.faultAt("main = \\@_ -> 1", 2);
        House.faultAt("main = \\x @1 -> 1", 2);
        House.faultAt("main = \\@X -> 1", 2);
    }

    /** "Where the last operand of a sign, or the last ARGUMENT, would stand, an E that begins with \ let if or case may not". */
    private static void wordedLast() {
        for (String worded : WORDED) {
            for (String sign : TESTS) {
                House.faultAt("main = 1 " + sign + " @" + worded, 2);
            }
            for (String sign : CHAINS) {
                House.faultAt("main = 1 " + sign + " @" + worded, 2);
                House.faultAt("main = (1 " + sign + " 1 " + sign + " @" + worded + ")", 2);
            }
            House.faultAt("f x = 1; main = f @" + worded, 2);
            House.faultAt("f x = 1; main = f 1 @" + worded, 2);
            House.fine("f x = 1\nmain = f (" + worded + ")");
            House.fine("main = [" + worded + "]");
            House.fine("main = (1, " + worded + ")");
            House.fine("f = (" + worded + ")\nmain = 1");
            House.fine("f = \\y -> " + worded + "\nmain = 1");
            House.fine("f = let y = 1 in " + worded + "\nmain = 1");
            House.fine("f = if True then " + worded + " else " + worded + "\nmain = 1");
            House.fine("f = case 1 of _ -> " + worded + "\nmain = 1");
        }
        House.shows("main = 1 + (if True then 1 else 2)", "2");
        House.shows("main = 1 + (let x = 1 in x) * (case 2 of x -> x)", "3");
        // Behind such an E no sign is left out of it: 2 + 3 is the else's.
        House.shows("main = if True then 1 else 2 + 3", "1");
        House.shows("main = let x = 1 in x + 3", "4");
    }

    /** "TEST: ROW, perhaps one of == /= < <= > >= and a ROW". */
    private static void oneTest() {
        for (String one : TESTS) {
            for (String other : TESTS) {
                House.faultAt("main = 1 " + one + " 2 @" + other + " 3", 2);
                House.fine("main = 1 " + one + " 2 && 2 " + other + " 3 || 3 " + one + " 4");
                House.fine("main = case (1 " + one + " 2) of _ -> 2 " + other + " 3");
            }
        }
        // Each side is a ROW.
        House.fault("main = 1 : [] == 1 : []", 7, 1);
    }

    /** "( E ), ( E , E ), [ ], [ Es with , between ]". */
    private static void brackets() {
        House.shows("main = (1)", "1");
        House.shows("main = (1,2)", "(1,2)");
        House.faultAt("main = (1,2 @, 3)", 2);
        House.faultAt("main = (@)", 2);
        House.faultAt("main = (1, @)", 2);
        House.faultAt("main = (@, 1)", 2);
        House.shows("main = []", "[]");
        House.shows("main = [1]", "[1]");
        House.shows("main = [1,2]", "[1,2]");
        House.faultAt("main = [@, 1]", 2);
        House.faultAt("main = [1, @]", 2);
        House.faultAt("main = [1, @, 2]", 2);
        House.faultAt("main = [1 @; 2]", 2);
        House.faultAt("main = (@+ 1)", 2);
        House.faultAt("main = (1 + @)", 2);
        House.faultAt("main = @- 1", 2);
        House.faultAt("main = @_", 2);
        House.faultAt("main = 1 + @_", 2);
        House.faultAt("main = main @_", 2);
    }

    /** "PATTERN: CON NAMES, NUMBER, NAME, [ ], NAME : NAME, ( NAME , NAME ); _ may stand for each NAME". */
    private static void patterns() {
        String datas = "data A = B | C Int Int\n";
        for (String good : new String[] {"B", "C x y", "C _ y", "C x _", "C _ _"}) {
            House.fine(datas + "main = case B of " + good + " -> 1");
        }
        for (String good : new String[] {"x : y", "_ : y", "x : _", "_ : _", "[]", "x", "_"}) {
            House.fine("main = case [1] of " + good + " -> 1");
        }
        for (String good : new String[] {"(x, y)", "(_, y)", "(x, _)", "(_, _)"}) {
            House.fine("main = case (1, 2) of " + good + " -> 1");
        }
        String[] bad = {"x @y", "_ @_", "B @1", "B @B", "B @(x)", "B x @: y", "1 @: x", "1 @2", "x : @1", "x : @[]",
            "x : y @: z", "x : @(y)", "[ @x ]", "[ @1 ]", "[] @: x", "[] @x", "( @1 , x)", "(x @)", "( @B , x)", "(x , @1 )",
            "(x , y @, z)", "( @)", "@- 1", "@-> 1", "@\\x", "@+", "@if", "(x , y) @z", "x @+ 1"};
        for (String pattern : bad) {
            House.faultAt(datas + "main = case B of " + pattern + "~ -> 1", 2);
        }
        House.faultAt("main = case 1 of 1 @= 2", 2);
        House.faultAt("main = case 1 of 1@", 2);
        House.faultAt("main = case 1 of 1 ->@", 2);
        House.faultAt("main = case 1 of 1 -> 2 @-> 3", 2);
    }

    /** "A BLOCK behind of or let has an ITEM that isn't empty (else 2 at what ends it)". */
    private static void blocksWithoutItems() {
        House.faultAt("main = let @in~ 1", 2);
        House.faultAt("main = let ; @in~ 1", 2);
        House.faultAt("main = let ;; ; @in~ 1", 2);
        House.faultAt("main = (case 1 of @)", 2);
        House.faultAt("main = (case 1 of ; @)", 2);
        House.faultAt("main = [case 1 of ;; @]", 2);
        House.faultAt("main = (case 1 of ; @, 2)", 2);
        House.faultAt("main = if case 1 of ; @then~ 1 else 2", 2);
        House.faultAt("main = if True then case 1 of ; @else~ 2", 2);
        House.faultAt("main = case case 1 of ; @of~ 1 -> 2", 2);
        House.faultAt("main = let x = case 1 of ; @in~ x", 2);
        House.faultAt("main = case 1 of ;@", 2);
        House.fault("main = case 1 of ;\nx = 2", 2, 2);
        House.fault("main = case 1 of ;\n  x\n -> 2", 2, 2);
        House.fault("main = case 1 of\n  ;\n  ;\nx = 1", 2, 4);
        House.fine("main = let x = 1 in 1");
        House.fine("main = let ; x = 1 in 1");
        House.fine("main = case 1 of ; x -> 1");
        House.fine("main = case 1 of\n  ;\n  x -> 1");
    }

    /** "2 it can't stand there (also the end)". */
    private static void endOfText() {
        for (String text : new String[] {"main", "main =", "main = 1 +", "main = (", "main = [1,", "main = \\x",
            "main = if 1", "main = if 1 then", "main = if 1 then 1 else", "main = case 1", "main = case 1 of x",
            "main = let x", "main = let x = 1", "main = let x = 1 in", "data", "data A", "data A =", "data A = B |"}) {
            House.fault(text, 2, 1);
            House.fault(text + "\n", 2, 2);
            House.fault(text + " -- x\n\n", 2, 3);
        }
    }

    /** "token by token, the first one". */
    private static void firstToken() {
        String deep = "main = " + times(40, "(");
        // 1, 2, 3 and 8 at a token, then another one at the next.
        House.fault("main = 1\n #\n ) x", 1, 2);
        House.fault("main = 1\n )\n # x", 2, 2);
        House.fault(" main = 1\nx\n #", 3, 2);
        House.fault(" main = 1\nx\n )", 3, 2);
        House.fault(" main = 1\n)\n #", 2, 2);
        House.fault(deep + "\n 1\n #", 8, 2);
        House.fault(deep + "\n 1\n ]", 8, 2);
        House.fault(" " + deep + "\n  1\n2", 8, 2);
        House.fault(" main = 1\nx " + times(41, "(") + "1", 3, 2);
        House.fault("main = 1 )\n " + times(41, "(") + "1", 2, 1);
        House.fault("main = 1 # \n " + times(41, "(") + "1", 1, 1);
    }

    /** "(of one token the least)". */
    private static void leastOfOneToken() {
        String deep = times(40, "(");
        // 1 ahead of 2, 3 and 8.
        House.fault("main = 1 +\n)#", 2, 2);
        House.fault("main = 1 +\n #)", 1, 2);
        House.fault(" main = 1 +\n#", 1, 2);
        House.fault("main = " + deep + "\n #", 1, 2);
        House.fault("main = case 1 of\n#", 1, 2);
        House.fault("main = case 1 of\n1234567890123", 1, 2);
        House.fault("main = let\nabcdefghijklm = 1 in 1", 1, 2);
        // 2 ahead of 3 and 8.
        House.fault(" main = 1 +\n+ 2", 2, 2);
        House.fault(" main = 1 +\n2", 3, 2);
        House.fault("main = case 1 of\n+ 2", 2, 2);
        House.fault("main = let\n1 = 2 in 3", 2, 2);
        House.fault("main = let\nin 3", 2, 2);
        House.fault("main = (case 1 of\n)", 2, 2);
        House.fault("main = " + deep + "\n )", 2, 2);
        House.fault("main = " + deep + "\n + 1", 2, 2);
        House.fault("data T = C " + times(41, "(") + "\n )", 2, 2);
        House.fault("data T = C " + times(41, "[") + "\n ]", 2, 2);
        House.fault("data T = C " + times(41, "(") + "\n -> Int", 2, 2);
        House.fault("main = " + times(20, "1 + ") + "\n if", 2, 2);
        House.fault("main = " + times(20, "1 + ") + "\n + 1", 2, 2);
        // 3 ahead of 8.
        House.fault(" main = " + deep + "\n1", 3, 2);
        House.fault(" data T = C " + times(41, "(") + "\nInt", 3, 2);
        House.fault(" main = " + times(20, "1 + ") + "\n1", 3, 2);
        House.fault(" main = " + times(19, "1 + ") + "\n1", 3, 2);
    }

    /** "what would be the 41st E .. within one another .. at its first token". */
    private static void depthOfEs() {
        for (int n = 38; n <= 42; n++) {
            String around = "main = " + times(n, "(") + "@1" + times(n, ")");
            String list = "f = " + times(n, "[") + "@1" + times(n, "]") + "; main = 1";
            if (n < 40) {
                House.shows(around.replace("@", ""), "1");
                House.fine(list.replace("@", ""));
            } else if (n == 40) {
                House.faultAt(around, 8);
                House.faultAt(list, 8);
            } else {
                House.faultAt("main = " + times(40, "(") + "@(" + times(n - 40, "~("), 8);
            }
        }
        // Beside one another there may be any number.
        House.fine("main = " + times(12, "(1) + ") + "(1)");
        House.fine("f x = x" + times(12, " (1)") + "\nmain = 1");
        // The first token of the 41st E, whatever that is.
        String deep = "main = " + times(40, "(");
        for (String first : new String[] {"x", "X", "1", "(1)", "[1]", "\\x -> 1", "let x = 1 in 1", "if True then 1 else 1",
            "case 1 of x -> 1"}) {
            House.faultAt(deep + "@" + first, 8);
        }
    }

    /** "(or TYPE) within one another". */
    private static void depthOfTypes() {
        for (int n = 39; n <= 41; n++) {
            String round = "data T = C " + times(n, "(") + "@Int" + times(n, ")") + "\nmain = 1";
            String second = "data T = C " + times(n - 1, "(") + "(Int, @Int)" + times(n - 1, ")") + "\nmain = 1";
            String from = "data T = C " + times(n, "(") + "@Int -> Int" + times(n, ")") + "\nmain = 1";
            if (n < 41) {
                House.fine(round.replace("@", ""));
                House.fine(second.replace("@", ""));
            } else {
                House.faultAt(round, 8);
                House.faultAt(second.replace("(Int, @Int)", "(@Int, Int)"), 8);
            }
            if (n == 39) {
                House.fine(from.replace("@", ""));
            } else if (n == 40) {
                House.faultAt(from.replace("@", "").replace("-> ", "-> @"), 8);
            } else {
                House.faultAt(from, 8);
            }
        }
        // A list is one of the 40 things of a constructor's fields, too: 39 and Int are 40.
        House.fine("data T = C " + times(39, "[") + "Int" + times(39, "]") + "\nmain = 1");
        House.fault("data T = C " + times(40, "[") + "Int" + times(40, "]") + "\nmain = 1", 8, 0);
        House.faultAt("data T = C " + times(41, "[") + "@Int" + times(41, "]") + "\nmain = 1", 8);
    }

    /** "DEFINITIONS', in brackets, behind \ -> let in if then else case of": each is one deeper. */
    private static void depthPlaces() {
        String[] wholes = {"(E)", "(E, 2)", "(2, E)", "[E]", "[2, E]", "[2, 2, E]", "\\x -> E", "let x = E in 2",
            "let x = 2; y = E in 2", "let f x = E in 2", "let x = 2 in E", "if E == 1 then 1 else 2",
            "if True then E else 2", "if True then 2 else E", "case E of _ -> 2", "case 1 of _ -> E",
            "case 1 of 1 -> 2; _ -> E", "1 + (E)", "say (E) 2", "(E) : []"};
        for (String whole : wholes) {
            // The whole is E number n + 1, that which it has number n + 2.
            House.fine("f = " + times(38, "(") + whole.replace("E", "1") + times(38, ")") + "; main = 1");
            House.fine("f = " + times(37, "(") + whole.replace("E", "(1)") + times(37, ")") + "; main = 1");
            House.faultAt("f = " + times(38, "(") + whole.replace("E", "(@1~)") + times(38, ")") + "; main = 1", 8);
        }
        // DEFINITIONS' own: the E of a let's DEFINITION is within the let, that of the PROGRAM's in nothing.
        House.fine("f = " + times(39, "let x = ") + "1" + times(39, " in 1") + "\nmain = 1");
        House.fault("f = " + times(39, "let x = ") + "(1)" + times(39, " in 1") + "\nmain = 1", 8, 1);
        // Operands, ARGUMENTS and PATTERNS are no Es of their own.
        House.fine("main = " + times(39, "(") + "say 1 2 + 3 * 4" + times(39, ")"));
    }

    /** "the 21st operand of one OR, AND, ROW, SUM or PRODUCT (at its first token)". */
    private static void operands() {
        for (String sign : CHAINS) {
            String one = sign.equals("||") || sign.equals("&&") ? "True " : "1 ";
            String last = sign.equals(":") ? "[] " : one;
            for (int n = 19; n <= 22; n++) {
                String head = "main = " + times(Math.min(n, 21) - 1, one + sign + " ");
                if (n <= 20) {
                    House.fine(head + last);
                } else if (n == 21) {
                    House.faultAt(head + "@" + last, 8);
                    House.faultAt(head + "@(" + last + ")", 8);
                } else {
                    House.faultAt(head + "@" + last + "~" + sign + " " + last, 8);
                }
            }
        }
        House.faultAt("main = " + times(10, "1 + 1 - ") + "@1", 8);
        House.fine("main = " + times(9, "1 + 1 - ") + "1 + 1");
        House.faultAt("main = " + times(5, "1 * 1 / 1 % 1 * ") + "@1", 8);
    }

    /** Each OR, AND, ROW, SUM and PRODUCT has its own operands. */
    private static void operandsOfEach() {
        String product = times(19, "1*") + "1";
        House.fine("main = " + times(19, product + "+") + product);
        House.fine("main = " + times(19, "1*1+") + "1*1 == " + times(19, "1-") + "1");
        House.fine("main = " + times(19, "1<1&&") + "True || " + times(19, "1>1&&") + "True");
        House.fine("main = (" + times(19, "1+") + "1) + (" + times(19, "1+") + "1)");
        House.fine("main = (" + times(19, "1:") + "[]) : (" + times(19, "1:") + "[]) : []");
        House.faultAt("main = " + times(20, "1*1+") + "@1*1", 8);
        House.faultAt("main = 1 + " + times(20, "1*") + "@1", 8);
        House.faultAt("main = True || " + times(20, "True&&") + "@True", 8);
        House.faultAt("main = (" + times(19, "1+") + "1) + " + times(19, "1+") + "@1", 8);
    }
}
