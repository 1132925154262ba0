/** The edges of "Then 8, with line 0": each limit below it, at it and above it. */
public final class LimitEdgesTest {
    public static void main(String[] args) {
        lexemes();
        definitions();
        toldNames();
        datas();
        constructors();
        fields();
        thingsOfFields();
        thingsOfFieldsOfEach();
        parameters();
        arguments();
        things();
        namesOfData();
        amongFaults();
        House.end();
    }

    private static String times(int n, String what) {
        return what.repeat(n);
    }

    /** n things, each with its number in the place of the #. */
    private static String numbered(int from, int n, String what) {
        StringBuilder text = new StringBuilder();
        for (int k = from; k < from + n; k++) {
            text.append(what.replace("#", "" + k));
        }
        return text.toString();
    }

    private static void limit(String text, boolean good) {
        if (good) {
            House.fine(text);
        } else {
            House.fault(text, 8, 0);
        }
    }

    /** "more than 1,500 LEXEMES". */
    private static void lexemes() {
        for (int n = 1499; n <= 1501; n++) {
            limit("main=1" + times(n - 3, ";"), n <= 1500);
            limit("main=1 -- x y z\n" + times(n - 3, "; "), n <= 1500);
        }
        House.due("1500", "count(0)", House.of("main=1" + times(1497, ";")).it.count(0), 1500);
        House.fault("main=1" + times(3994, ";"), 8, 0);
    }

    /** "60 DEFINITIONS of the PROGRAM". */
    private static void definitions() {
        for (int n = 59; n <= 61; n++) {
            limit(numbered(1, n - 1, "d#=1\n") + "main=1", n <= 60);
            limit("main=1\n" + numbered(1, n - 1, "d# x=x\n"), n <= 60);
        }
        House house = House.of(numbered(1, 59, "d#=1\n") + "main=1");
        House.due("60", "count(1)", house.it.count(1), 60);
        House.due("60", "sign(59)", house.sign(59), "main :: Int");
        House.due("60", "sign(60)", house.sign(60), "");
        House.due("60", "group(59)", house.it.group(59), 59);
        // Those of a let are none of the PROGRAM.
        House.fine("main = let " + numbered(1, 61, "d#=1;") + " in 1");
        limit(numbered(1, 59, "d#=let x=1 in x\n") + "main=1", true);
    }

    /** "300 NAMES that are told (of DEFINITIONS, PARAMETERS, \ and PATTERNS, _ not)". */
    private static void toldNames() {
        // 9 names each, 33 times, and main: 298.
        String most = numbered(10, 33, "d# a b c d e f g h=1\n");
        String data = "data D=D Int Int Int\n";
        String[][] more = {
            {"main=1\nx=1", "main=1\nx=1\ny=1", "main=1\nx=1\ny=1\nz=1"},
            {"main=1\nx=1", "main=1\nx a=1", "main=1\nx a b=1"},
            {"main=case\\a->1of _->1", "main=case\\a b->1of _->1", "main=case\\a b c->1of _->1"},
            {"main=case 1of a->1", "main=case(1,2)of(a,b)->1", "main=case(1,2)of(a,b)->case 1of c->1"},
            {"main=case[1]of a:_->1", "main=case[1]of a:b->1", "main=case[1]of a:b->case 1of c->1"},
            {data + "main=case D 1 2 3of D a _ _->1", data + "main=case D 1 2 3of D a _ c->1",
                data + "main=case D 1 2 3of D a b c->1"},
            {"main=let a=1in 1", "main=let a=1;b=1in 1", "main=let a=1;b=1;c=1in 1"},
            {"main=let a=1in 1", "main=let a b=1in 1", "main=let a b c=1in 1"}};
        for (String[] row : more) {
            for (int k = 0; k < row.length; k++) {
                limit(most + row[k], 299 + k <= 300);
            }
            House.due(row[1], "count(2)", House.of(most + row[1]).it.count(2), 300);
        }
        // All of them may be DEFINITIONS, each a GROUP by itself.
        String lets = numbered(10, 59, "d#=1\n") + "main=let " + numbered(100, 240, "x#=1;") + "in ";
        House house = House.ran(lets + "x339+x100");
        House.due("DEFINITIONS", "count(2)", house.it.count(2), 300);
        House.due("DEFINITIONS", "text", house.text(), "2");
        limit(lets + "let y=1in y", false);
        // No _ counts, nor do NAMES of DATA.
        House.due("_", "count(2)", House.of(most + data + "main=case(1,2)of(_,_)->case[1]of _:_->case 1of _->"
                + "case D 1 2 3of D _ _ _->(\\a b->1)1 2").it.count(2), 300);
        House.due("DATA", "count(2)", House.of(most + "data D a b c d e f g h=D a\nmain=(\\a b->1)1 2").it.count(2), 300);
    }

    /** "30 DATA". */
    private static void datas() {
        for (int n = 29; n <= 31; n++) {
            limit(numbered(1, n, "data D#=C#\n") + "main=1", n <= 30);
            limit("main=1\n" + numbered(1, n, "data D#=C#\n"), n <= 30);
        }
        // The last one is as good as the first.
        House.shows(numbered(1, 30, "data D# a=C# a\n") + "main=(C1 1,C30 2)", "((C1 1),(C30 2))");
        House.due("30", "sign", House.of(numbered(1, 30, "data D# a=C# a\n") + "main=C30 1").sign(0), "main :: D30 Int");
    }

    /** "60 constructors of DATA". */
    private static void constructors() {
        for (int n = 59; n <= 61; n++) {
            limit("data D=C0" + numbered(1, n - 1, "|C#") + "\nmain=1", n <= 60);
            limit("data E=E1|E2|E3\ndata D=C0" + numbered(1, n - 4, "|C#") + "\nmain=1", n <= 60);
        }
        String all = "data D=C0" + numbered(1, 59, "|C#") + "\n";
        House.due("60", "count(3)", House.of(all + "main=1").it.count(3), 60);
        House house = House.ran(all + "x=C59\nmain=[C0,C59]");
        House.due("60", "text", house.text(), "[C0,C59]");
        House.due("60", "global(0, 2)", house.it.global(0, 2), 64);
        House.shows(all + "main=case C59 of C0->1;C58->2;C59->3", "3");
    }

    /** "6 fields". */
    private static void fields() {
        for (int n = 5; n <= 7; n++) {
            limit("data D=C" + times(n, " Int") + "\nmain=1", n <= 6);
            limit("data D a=B|C" + times(n, " a") + "|E\nmain=1", n <= 6);
        }
        House.shows("data D=C Int Int Int Int Int Int\nmain=C 1 2 3 4 5 6", "(C 1 2 3 4 5 6)");
        House.shows("data D=C Int Int Int Int Int Int\nmain=case C 1 2 3 4 5 6 of C a b c d e f->[a,b,c,d,e,f]",
                "[1,2,3,4,5,6]");
    }

    /** "40 CONS, NAMES, ->, pairs and lists in the fields of one constructor". */
    private static void thingsOfFields() {
        // Around one of 2 k + 1 (k arrows, or k pairs) so many lists that it has n.
        for (int n = 39; n <= 41; n++) {
            limit("data D=C " + times(n - 1, "[") + "Int" + times(n - 1, "]") + "\nmain=1", n <= 40);
            limit("data D a=C " + times(n - 1, "[") + "a" + times(n - 1, "]") + "\nmain=1", n <= 40);
            int lists = n - 2 * 15 - 1;
            limit("data D=C " + times(lists, "[") + times(15, "(Int,") + "Int" + times(15, ")") + times(lists, "]")
                    + "\nmain=1", n <= 40);
            limit("data D a=C " + times(lists, "[") + "(" + times(15, "a->") + "a)" + times(lists, "]") + "\nmain=1", n <= 40);
            limit("data D a=C " + times(lists, "[") + "(" + times(15, "Bool->") + "Int)" + times(lists, "]") + "\nmain=1",
                    n <= 40);
        }
        // A type with parts: the CON and each part. 19 of D D and an Int are 39.
        limit("data D a b=C " + times(19, "(D Int ") + "Int" + times(19, ")") + "\nmain=1", true);
        limit("data D a b=C [" + times(19, "(D Int ") + "Int" + times(19, ")") + "]\nmain=1", true);
        limit("data D a b=C [[" + times(19, "(D Int ") + "Int" + times(19, ")") + "]]\nmain=1", false);
        // Brackets are none of them.
        limit("data D=C " + times(39, "(") + "Int" + times(39, ")") + "\nmain=1", true);
    }

    /** The fields of one constructor count together, those of each constructor by themselves. */
    private static void thingsOfFieldsOfEach() {
        String ten = times(9, "[") + "Int" + times(9, "]");
        limit("data D=C " + times(4, ten) + "\nmain=1", true);
        limit("data D=C " + times(4, ten) + "Int\nmain=1", false);
        limit("data D=C " + times(4, ten) + "|E " + times(4, ten) + "\nmain=1", true);
        limit("data D=C|E " + times(4, ten) + "Bool\nmain=1", false);
        limit("data D=C " + times(4, ten) + "\ndata F=E " + times(4, ten) + "\nmain=1", true);
        // Its type is right, too, with all that it can have.
        String names = " a b c d e f g h";
        House.fine("data D" + names + "=C " + times(5, "[[[[[a]]]]] ") + times(9, "[") + "h" + times(9, "]")
                + "\nf x=case x of C a b c d e f->1\nmain=1");
    }

    /** "8 PARAMETERS (of \, too)". */
    private static void parameters() {
        String names = " a b c d e f g h i";
        for (int n = 7; n <= 9; n++) {
            String some = names.substring(0, 2 * n);
            limit("f" + some + "=1\nmain=1", n <= 8);
            limit("main=let f" + some + "=1 in 1", n <= 8);
            limit("f=\\" + some + "->1\nmain=1", n <= 8);
            limit("main=case(\\" + some + "->1)of _->1", n <= 8);
        }
        House.shows("f a b c d e f g h=h\nmain=f 1 2 3 4 5 6 7 8", "8");
        House.due("8", "strict", House.of("f a b c d e f g h=h\nmain=1").stricts(0), "00000001");
        // PARAMETERS and a \ behind them are two rows.
        limit("f a b c d e f g h=\\a b c d e f g h->1\nmain=1", true);
    }

    /** "12 ARGUMENTS". */
    private static void arguments() {
        for (int n = 11; n <= 13; n++) {
            limit("f x=x" + times(n, " 1") + "\nmain=1", n <= 12);
            limit("f x=1+(x" + times(n, " (1)") + ")*2\nmain=1", n <= 12);
            limit("f x=(x 1)" + times(n, " 1") + "\nmain=1", n <= 12);
        }
        limit("data D=C\nmain=C" + times(13, " 1"), false);
        House.fault("data D=C\nmain=C" + times(12, "\n 1"), 7, 3);
        String many = "f a b c d e f=\\g h i j k l->[a,b,c,d,e,f,g,h,i,j,k,l]\n";
        House.shows(many + "main=f 1 2 3 4 5 6 7 8 9 10 11 12", "[1,2,3,4,5,6,7,8,9,10,11,12]");
    }

    /** "things in [ ]". */
    private static void things() {
        for (int n = 11; n <= 13; n++) {
            limit("main=[1" + times(n - 1, ",1") + "]", n <= 12);
            limit("main=[[1],[1" + times(n - 1, ",1") + "]]", n <= 12);
        }
        House.shows("main=[1,2,3,4,5,6,7,8,9,10,11,12]", "[1,2,3,4,5,6,7,8,9,10,11,12]");
        // Of a ROW there may be more.
        House.fine("main=" + times(19, "1:") + "[]");
    }

    /** "8 NAMES of a DATA". */
    private static void namesOfData() {
        String names = " a b c d e f g h i";
        for (int n = 7; n <= 9; n++) {
            limit("data D" + names.substring(0, 2 * n) + "=C\nmain=1", n <= 8);
            limit("data E a=E\ndata D" + names.substring(0, 2 * n) + "=C a\nmain=1", n <= 8);
        }
        House.due("8", "sign", House.of("data D a b c d e f g h=C h g\nf=C 1\nmain=1").sign(0),
                "f :: a -> D b c d e f g a Int");
    }

    /** Behind the names, ahead of the types; and line 0, wherever it is. */
    private static void amongFaults() {
        String wide = "\n\nf a b c d e f g h i=1";
        House.fault("main=q" + wide, 5, 1);
        House.fault("main=1" + wide + "\nmain=2", 4, 4);
        House.fault("x=1 1\nmain=1" + wide, 8, 0);
        House.fault("main x=x" + wide, 8, 0);
        House.fault("main=1)" + wide, 2, 1);
    }
}
