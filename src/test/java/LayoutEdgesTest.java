/** The edges of "Terms", LAYOUT: columns, ITEMS, BLOCKS, and what opens and closes. */
public final class LayoutEdgesTest {
    private static final String[] OPEN = {"(1", "[1", "if True", "if True then 1", "case 1", "let x = 1"};
    private static final String[] CLOSER = {")", "]", "then", "else", "of", "in"};

    public static void main(String[] args) {
        closers();
        closersOfNothing();
        openTillClosed();
        commas();
        semicolons();
        programColumn();
        blockColumn();
        blockColumnOfLastBlock();
        blockColumnBehindEnded();
        textEndsBehindOfAndLet();
        lineInBlock();
        lineEndsBlocks();
        onlyFirstOfLine();
        programNeverEnds();
        closersEndBlocks();
        closersThatBeginLines();
        commaEndsBlocks();
        inEndsItsOwnBlock();
        emptyItems();
        endsWithOpen();
        textEndsAll();
        House.end();
    }

    private static String blanks(int n) {
        return " ".repeat(n);
    }

    /** "( by ), [ by ], if by then, then by else, case by of, let by in"; another closer: 2 at it. */
    private static void closers() {
        for (int open = 0; open < OPEN.length; open++) {
            for (int closer = 0; closer < CLOSER.length; closer++) {
                if (open != closer) {
                    House.faultAt("main = " + OPEN[open] + " @" + CLOSER[closer] + "~ 1", 2);
                    House.faultAt("main = (" + OPEN[open] + " @" + CLOSER[closer] + "~ 1", 2);
                }
            }
        }
        House.shows("main = (1)", "1");
        House.shows("main = [1]", "[1]");
        House.shows("main = if True then 1 else 2", "1");
        House.shows("main = case 1 of _ -> 1", "1");
        House.shows("main = let x = 1 in x", "1");
    }

    private static void closersOfNothing() {
        for (String closer : CLOSER) {
            House.faultAt("main = 1 @" + closer + "~ 1", 2);
            House.faultAt("@" + closer + "~ main = 1", 2);
            House.faultAt("main = (1) @" + closer + "~ 1", 2);
            House.faultAt("main = if True then 1 else 2 @" + closer + "~ 1", 2);
            House.faultAt("main = case 1 of 1 -> 2 @" + closer + "~ 1", 2);
            House.faultAt("main = let x = 1 in x @" + closer + "~ 1", 2);
        }
    }

    /** "What opens is OPEN till its own closer comes": what was opened within it is closed first. */
    private static void openTillClosed() {
        House.shows("main = ([(1, [if (True) then [2] else [3]])])", "[(1,[[2]])]");
        House.faultAt("main = ([1 @)~ ]", 2);
        House.faultAt("main = [(1 @]~ )", 2);
        House.faultAt("main = if (True @then~ 1) else 2", 2);
        House.faultAt("main = if True then (1 @else~ 2)", 2);
        House.faultAt("main = case (1 @of~ 1) -> 2", 2);
        House.faultAt("main = let x = (1 @in~ x)", 2);
        House.shows("main = if if True then False else True then 1 else if False then 2 else 3", "3");
        House.shows("main = if True then if False then 1 else 2 else 3", "2");
        House.shows("main = let x = let y = 1 in y in let z = x in z", "1");
    }

    /** "for , none of ( [, it can't stand there (2)". */
    private static void commas() {
        House.faultAt("main = 1 @, 2", 2);
        House.faultAt("@, main = 1", 2);
        House.faultAt("main = (1) @, 2", 2);
        House.faultAt("main = (if True @, 1)", 2);
        House.faultAt("main = (if True then 1 @, 2)", 2);
        House.faultAt("main = (case 1 @, 2)", 2);
        House.faultAt("main = (let x = 1 @, 2)", 2);
        House.faultAt("main = [let x = 1 @, 2]", 2);
        House.shows("main = (if True then 1 else 2, 3)", "(1,3)");
        House.shows("main = (case 1 of 1 -> 2, 3)", "(2,3)");
        House.shows("main = [let x = 1 in x, 3]", "[1,3]");
        House.shows("main = [(1, 2), (3, 4)]", "[(1,2),(3,4)]");
    }

    /** "; ends an ITEM, another one begins"; "If something ends while it has what is OPEN within it .. : 2". */
    private static void semicolons() {
        for (String open : OPEN) {
            if (!open.startsWith("let")) {
                House.faultAt("main = " + open + " @;~ x = 2", 2);
                House.faultAt("main = let y = " + open + " @;~ x = 2 in 3", 2);
                House.faultAt("main = case 1 of _ -> " + open + " @;~ x -> 2", 2);
            }
        }
        House.shows("main = let x = 1; y = 2 in x + y", "3");
        House.shows("main = x; x = 4", "4");
        House.shows("main = case 2 of 1 -> 5; 2 -> 6; _ -> 7", "6");
        // One ends the ITEM of the BLOCK that began last alone.
        House.shows("main = case 1 of 1 -> case 2 of 1 -> 3; 2 -> 4", "4");
        House.faultAt("main = case 1 of 1 -> 2; x @= 3", 2);
        // A DEFINITION behind let x = 1; belongs to the let: it has no in.
        House.faultAt("main = let x = 1; y = 2@", 2);
    }

    /** "The PROGRAM is a BLOCK, of its first LEXEME's column". */
    private static void programColumn() {
        for (int column = 0; column <= 3; column++) {
            String head = blanks(column) + "main = 1 + x\n";
            House.shows(head + blanks(column) + "x = 2", "3");
            House.fault(head + blanks(column + 1) + "x = 2", 2, 2);
            if (column > 0) {
                House.fault(head + blanks(column - 1) + "x = 2", 3, 2);
            }
            House.shows(blanks(column) + "main = 1\n" + blanks(column + 1) + "+ 2", "3");
            House.fault(blanks(column) + "main = 1\n" + blanks(column) + "+ 2", 2, 2);
        }
        // The first LEXEME may be a ; or stand behind lines without one.
        House.shows("  ;\n  main = 1", "1");
        House.fault("  ;\n main = 1", 3, 2);
        House.fault("  ;\n   main = 1\n  = 2", 2, 3);
        House.shows("-- x\n\n   \n  main = x\n-- y\n  x = 3", "3");
        House.fault("  data A = B\n main = 1", 3, 2);
    }

    /** "which must be greater than that of the BLOCK that began last and has not ended (else 3 at it". */
    private static void blockColumn() {
        for (int column = 0; column <= 2; column++) {
            String head = blanks(column) + "main = ";
            for (int inner = 0; inner <= 4; inner++) {
                String let = head + "let\n" + blanks(inner) + "x = 1\n" + blanks(9) + "in x";
                String cases = head + "case 1 of\n" + blanks(inner) + "1 -> 2";
                if (inner > column) {
                    House.fine(let.replace("\n" + blanks(9) + "in", " in"));
                    House.fine(cases);
                } else {
                    House.fault(let, 3, 2);
                    House.fault(cases, 3, 2);
                }
            }
        }
        // On the same line it always is.
        House.fine("main = case\n 1 of 1 -> 2");
        House.fine("main = let x = 1 in x");
    }

    private static void blockColumnOfLastBlock() {
        for (int column = 0; column <= 4; column++) {
            String text = "main = case 1 of\n  1 -> case 2 of\n" + blanks(column) + "2 -> 3";
            String let = "main = case 1 of\n  1 -> let\n" + blanks(column) + "y = 3 in y";
            if (column > 2) {
                House.shows(text, "3");
                House.shows(let, "3");
            } else {
                House.fault(text, 3, 3);
                House.fault(let, 3, 3);
            }
        }
        String inLet = "main = let x = case 1 of\n";
        House.fault(inLet + blanks(10) + "1 -> 2 in x", 3, 2);
        House.fault(inLet + blanks(11) + "1 -> 2 in x", 3, 2);
        House.shows(inLet + blanks(12) + "1 -> 2 in x", "2");
    }

    private static void blockColumnBehindEnded() {
        // The BLOCK of column 15 was ended by the ), that of column 17 by y.
        House.shows("main = case (case 1 of\n               1 -> 2) of\n  2 -> 3", "3");
        House.shows("main = case (case 1 of\n               1 -> 2) of\n 2 -> 3", "3");
        House.fault("main = case (case 1 of\n               1 -> 2) of\n2 -> 3", 3, 3);
        String text = "main = let x = case 1 of\n                 1 -> 2\n           y = case 2 of\n";
        House.fault(text + blanks(11) + "2 -> 3 in x + y", 3, 4);
        House.shows(text + blanks(12) + "2 -> 3 in x + y", "5");
        House.shows("main = case 1 of\n    1 -> 2\nx = case 1 of\n 1 -> 2", "2");
    }

    /** "the text's end there: 2". */
    private static void textEndsBehindOfAndLet() {
        House.fault("main = case 1 of", 2, 1);
        House.fault("main = case 1 of\n", 2, 2);
        House.fault("main = case 1 of -- x\n  \n", 2, 3);
        House.fault("main = let", 2, 1);
        House.fault("main = let\n", 2, 2);
        House.fault("main = 1\nx = (let\n", 2, 3);
        House.fault("main = 1\nx = case 1 of 1 -> let", 2, 2);
    }

    private static void line(int column, int[] states) {
        String f = "f a b c = case a of\n  1 -> case b of\n    2 -> case c of\n      3 -> 4\n" + blanks(column)
                + "_ -> 5\nmain = f ";
        String[] calls = {"9 2 3", "1 9 3", "1 2 9"};
        for (int k = 0; k < calls.length; k++) {
            House.due(f + calls[k], "count(5)", House.ran(f + calls[k]).it.count(5), states[k]);
        }
    }

    /** A line's first LEXEME left of, in and right of the columns of three BLOCKS: 2, 4, 6. */
    private static void lineInBlock() {
        line(2, new int[] {2, 4, 4});
        line(4, new int[] {4, 2, 4});
        line(6, new int[] {4, 4, 2});
        for (int column : new int[] {0, 1, 3, 5, 7}) {
            House.fault("f a b c = case a of\n  1 -> case b of\n    2 -> case c of\n      3 -> 4\n" + blanks(column)
                    + "_ -> 5\nmain = 1", 2, 5);
        }
        // Right of the BLOCK it goes on with the ITEM, wherever it stands.
        for (int column = 12; column < 16; column++) {
            House.shows("main = let x = 1\n" + blanks(column) + "+ 2\n           y = 3 in x + y", "6");
        }
        House.fault("main = let x = 1\n           + 2\n           y = 3 in x + y", 2, 2);
        House.fault("main = let x = 1\n          + 2\n           y = 3 in x + y", 2, 2);
    }

    /** "as long as its column is less .. that one ends"; each of those that end, in turn. */
    private static void lineEndsBlocks() {
        String text = "main = case 1 of\n  1 -> case 2 of\n    2 -> case 3 of\n      3 -> 4\n";
        House.shows(text + "x = 5", "4");
        // The E that the case is has ended, and nothing can follow it.
        House.fault(text + " + 5", 2, 5);
        House.shows(text.replace("case 1", "(case 1").replace("4\n", "4\n )") + " + 5", "9");
        // Behind the end of a BLOCK the rest of the ITEM around goes on.
        House.shows("main = (case 1 of\n         1 -> 2\n  , 3)", "(2,3)");
        House.shows("main = [case 1 of\n         1 -> 2\n ]", "[2]");
        House.shows("main = let x = 1\n           y = 2\n  in x + y", "3");
        House.shows("main = if case 1 of\n          1 -> True\n then 1 else 2", "1");
    }

    /** Only "The first LEXEME of a line" counts, "if no BLOCK begins with it". */
    private static void onlyFirstOfLine() {
        House.shows("main = 1 +\n 2 + x; x = 3", "6");
        House.shows("main = case 1 of 1 -> 2\n                 _ -> 3", "2");
        House.fault("main = case 1 of 1 -> 2\n x               _ -> 3", 2, 2);
        House.shows("main = let\n x = 1\n y = 2 in x + y", "3");
        // One that begins a BLOCK ends no ITEM around, though its column be less than one of those.
        House.shows("main = case case 1 of\n                 1 -> 2 of\n  2 -> 3", "3");
        // A line without a LEXEME is none.
        House.shows("main = 1\n\n   \n-- x\n + 2", "3");
    }

    /** "(the PROGRAM never: 3)". */
    private static void programNeverEnds() {
        House.fault("  main = 1\n x = 2", 3, 2);
        House.fault("  main = 1\nx = 2", 3, 2);
        House.fault("  main = 1 +\n 2", 3, 2);
        House.fault("  main = f\n   1\n x = 2", 3, 3);
        House.fault("  main = (case 1 of\n   1 -> 2\n )", 3, 3);
        House.fault("  main = let x = 1\n in x", 3, 2);
        House.fault("  main = (1\n ,2)", 3, 2);
        House.fault("  main = 1\n ; x = 2", 3, 2);
        House.fine("  main = 1\n  ; x = 2");
        House.fine("  main = 1\n   ; x = 2");
        // The text's end is no LEXEME of a line.
        House.fine("  main = 1\n");
        House.fine("  main = 1\n ");
        House.fine("  main = 1\n -- x");
    }

    /** "Each closer ends all BLOCKS that began behind what it closes". */
    private static void closersEndBlocks() {
        String two = "case 1 of 1 -> case 2 of 2 -> 3";
        House.shows("main = (" + two + ") + 1", "4");
        House.shows("main = [" + two + "]", "[3]");
        House.shows("main = if case 1 of 1 -> case 2 of 2 -> True then 1 else 2", "1");
        House.shows("main = if True then " + two + " else 4", "3");
        House.shows("main = case " + two + " of 3 -> 4", "4");
        House.shows("main = let x = " + two + " in x + 1", "4");
        // What began ahead of what it closes goes on.
        House.shows("main = case 1 of 2 -> (case 1 of 1 -> 2); 1 -> 5", "5");
        House.shows("main = let x = (case 1 of 1 -> 2); y = 3 in x + y", "5");
        House.shows("main = case 2 of 1 -> if True then case 1 of 1 -> 2 else 3; 2 -> 4", "4");
        // Behind of another BLOCK begins, to which the ; belongs: the outer case has no ITEM that fits.
        String behind = "main = case 2 of 1 -> case case 1 of 1 -> 2 of 2 -> 3; 2 -> 4";
        House.due(behind, "count(5)", House.ran(behind).it.count(5), 4);
    }

    /** A closer as the first LEXEME of a line: left of the BLOCK, in its column (an empty ITEM ends) and right of it. */
    private static void closersThatBeginLines() {
        for (int column = 0; column <= 4; column++) {
            String line = "\n" + blanks(column);
            String[] texts = {"main = (case 1 of\n  1 -> 2" + line + ")", "main = [case 1 of\n  1 -> 2" + line + "]",
                "main = (case 1 of\n  1 -> 2" + line + ", 3)", "main = let\n  x = 2" + line + "in x",
                "main = if case 1 of\n  1 -> True" + line + "then 2 else 3", "main = if True then case 1 of\n  1 -> 2" + line
                + "else 3", "main = case case 1 of\n  1 -> 2" + line + "of 2 -> 2"};
            String[] shown = {"2", "[2]", "(2,3)", "2", "2", "2", "2"};
            for (int k = 0; k < texts.length; k++) {
                if (column == 0) {
                    House.fault(texts[k], 2, 3);
                } else {
                    House.shows(texts[k], shown[k]);
                }
            }
        }
    }

    /** "a , those behind the last ( or [ that is OPEN". */
    private static void commaEndsBlocks() {
        House.shows("main = (case 1 of 1 -> case 2 of 2 -> 3, 4)", "(3,4)");
        House.shows("main = [case 1 of 1 -> 2, case 2 of 2 -> 3, 4]", "[2,3,4]");
        House.shows("main = case 2 of 1 -> (case 1 of 1 -> 2, 3); 2 -> (4, 5)", "(4,5)");
        House.shows("main = (case [1] of\n          x : y -> case x of\n                      1 -> 2, 3)", "(2,3)");
        House.faultAt("main = case 1 of 1 -> 2 @, 3", 2);
    }

    /** "(in: that of its let, too)". */
    private static void inEndsItsOwnBlock() {
        House.shows("main = let x = 1 in x", "1");
        House.shows("main = let x = 1\n           in x", "1");
        House.shows("main = let x = 1\n             in x", "1");
        House.shows("main = let x = 1\n in x", "1");
        House.fault("main = let x = 1\nin x", 2, 2);
        House.shows("main = let x = case 1 of 1 -> let y = 2 in y in x", "2");
    }

    /** "An ITEM may be empty". */
    private static void emptyItems() {
        House.shows(";main = 1", "1");
        House.shows("main = 1;", "1");
        House.shows(";;\n;main = 1;;\n;", "1");
        House.fault(";", 5, 1);
        House.fault(";;;\n", 5, 2);
        House.shows("main = let ;x = 1;;y = 2; in x + y", "3");
        House.shows("main = let x = 1;\n           y = 2\n       in x + y", "3");
        House.shows("main = case 2 of ;1 -> 2;;\n                 ;2 -> 3;", "3");
        House.due("empty", "count(1)", House.of(";main = 1;;x = 2;").it.count(1), 2);
    }

    /** "If something ends while it has what is OPEN within it (..): 2, at the LEXEME that ends it". */
    private static void endsWithOpen() {
        for (String open : OPEN) {
            // A line in the column of the PROGRAM ends its ITEM.
            House.fault("main = " + open + "\nx\n = 2", 2, 2);
            House.fault("main = " + open + "\n;", 2, 2);
            // A line left of a BLOCK ends that, in its column the ITEM.
            House.fault("main = case 1 of\n   1 -> " + open + "\n  + 1", 2, 3);
            House.fault("main = case 1 of\n   1 -> " + open + "\n   2\n -> 1", 2, 3);
            House.fault("main = let\n   y = " + open + "\n   z\n = 1 in 1", 2, 3);
            House.fault("main = " + open + "\n\n", 2, 3);
        }
        // A closer of what is around ends it, too.
        House.faultAt("main = (case 1 of 1 -> [2 @)", 2);
        House.faultAt("main = (case 1 of 1 -> if True @)", 2);
        House.faultAt("main = let x = case 1 of 1 -> (2 @in~ x", 2);
        House.faultAt("main = [case 1 of 1 -> (2 @]", 2);
        House.faultAt("main = (case 1 of 1 -> let x = 1 @, 2)", 2);
    }

    /** "The text's end ends all". */
    private static void textEndsAll() {
        House.shows("main = case 1 of 1 -> case 2 of 2 -> 3", "3");
        House.shows("main = case 1 of 1 -> case 2 of 2 -> 3\n\n", "3");
        for (String open : OPEN) {
            House.faultAt("main = " + open + "@", 2);
            House.faultAt("main = case 1 of 1 -> " + open + "@", 2);
        }
    }
}
