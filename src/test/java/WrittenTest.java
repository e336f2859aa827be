/** Part E of the document: how values and types are written, and where that is cut. */
public final class WrittenTest extends Houses {
    private static final String AHEAD = "datatype 'a o = N | S of 'a exception E of int exception F of exn list ";

    private static void written(String exp, String due) {
        value(AHEAD + "in " + exp, due);
    }

    /** "numbers; true, false; ( ); strings ..; (a, b); [a, b]; NAME, NAME ARGUMENT ..; ref ARGUMENT; fn". */
    private static void forms() {
        written("0", "0");
        written("~1", "~1");
        written("(1073741823, ~1073741824)", "(1073741823, ~1073741824)");
        written("(true, false)", "(true, false)");
        written("()", "()");
        written("(1, 2)", "(1, 2)");
        written("((1, 2), (3, (4, 5)))", "((1, 2), (3, (4, 5)))");
        written("[]", "[]");
        written("nil", "[]");
        written("[1]", "[1]");
        written("[1, 2, 3]", "[1, 2, 3]");
        written("1 :: 2 :: nil", "[1, 2]");
        written("[[], [1], [2, 3]]", "[[], [1], [2, 3]]");
        written("(nil, [nil])", "([], [[]])");
        written("N", "N");
        written("Div", "Div");
        written("S 1", "S 1");
        written("S ~1", "S ~1");
        written("S ()", "S ()");
        written("S true", "S true");
        written("S N", "S N");
        written("S nil", "S []");
        written("S [1]", "S [1]");
        written("S [S 1]", "S [S 1]");
        written("S (1, 2)", "S (1, 2)");
        written("S (S 1, S 2)", "S (S 1, S 2)");
        written("S \"a\"", "S \"a\"");
        written("S print", "S fn");
        written("S S", "S fn");
        written("S (fn x => x)", "S fn");
        written("S (S 1)", "S (S 1)");
        written("S (S (S 1))", "S (S (S 1))");
        written("S (E 1)", "S (E 1)");
        written("S (ref 1)", "S (ref 1)");
        written("S Div", "S Div");
        written("E 5", "E 5");
        written("F [E 5, Div, F []]", "F [E 5, Div, F []]");
        written("ref 1", "ref 1");
        written("ref (ref 1)", "ref (ref 1)");
        written("ref (S 1)", "ref (S 1)");
        written("ref (E 1)", "ref (E 1)");
        written("ref N", "ref N");
        written("ref (1, 2)", "ref (1, 2)");
        written("ref [ref 1]", "ref [ref 1]");
        written("ref ()", "ref ()");
        written("[S 1, N, S 2]", "[S 1, N, S 2]");
        written("(S 1, ref 2, E 3)", "(S 1, ref 2, E 3)");
        written("(fn x => x, S, E, ref, !, ~, not, print)", "(fn, fn, fn, fn, fn, fn, fn, fn)");
        value("fun f x y = x in (f, f 1)", "(fn, fn)");
        value("datatype t = " + times("a", 31) + " of int in " + times("a", 31) + " 1", times("a", 31) + " 1");
        value("datatype t = x' of int | Y_9 in (x' 1, Y_9)", "(x' 1, Y_9)");
        value("datatype print = print of int in print 3", "print 3");
        raised(AHEAD + "in raise F [E 1]", "F [E 1]");
        raised(AHEAD + "in raise F nil", "F []");
        raised("exception G of int ref in raise G (ref 1)", "G (ref 1)");
    }

    /** "strings with " around, \ ahead of " and \, \n, \t, and \ with three digits for other bytes below 32 and from 127 on". */
    private static void strings() {
        value("in \"\"", "\"\"");
        for (int b = 0; b < 256; b++) {
            String due = b == 9 ? "\\t" : b == 10 ? "\\n" : b == '"' ? "\\\"" : b == '\\' ? "\\\\"
                : b < 32 || b > 126 ? "\\" + ("" + (1000 + b)).substring(1) : "" + (char) b;
            value("in chr " + b, "\"" + due + "\"");
            value("in \"a\" ^ chr " + b + " ^ \"bcd\"", "\"a" + due + "bcd\"");
        }
        value("in [\"a\", \"\", \"\\\"\"]", "[\"a\", \"\", \"\\\"\"]");
    }

    /** "From the 21st of tuples, lists that are not empty, constructors and exceptions with argument and refs in one another on, #". */
    private static void nested() {
        for (int n = 18; n <= 22; n++) {
            int shown = Math.min(n, 20);
            written(times("(0, ", n) + "1" + times(")", n), times("(0, ", shown) + (n > 20 ? "#" : "1") + times(")", shown));
            written(times("[", n) + "1" + times("]", n), times("[", shown) + (n > 20 ? "#" : "1") + times("]", shown));
            String ones = times("S (", shown - 1) + "S " + (n > 20 ? "#" : "1") + times(")", shown - 1);
            written(times("S (", n) + "1" + times(")", n), ones);
            written(times("ref (", n) + "1" + times(")", n), ones.replace("S", "ref"));
        }
        String[] leaves = {"1", "true", "()", "nil", "N", "Div", "\"abc\"", "print", "S", "fn x => x"};
        String[] due = {"1", "true", "()", "[]", "N", "Div", "\"abc\"", "fn", "fn", "fn"};
        for (int k = 0; k < leaves.length; k++) {
            written(times("[", 20) + leaves[k] + times("]", 20), times("[", 20) + due[k] + times("]", 20));
            written(times("[", 21) + leaves[k] + times("]", 21), times("[", 20) + "#" + times("]", 20));
        }
        String[] nested = {"(1, 2)", "[1]", "S 1", "E 1", "ref 1"};
        for (String exp : nested) {
            String argument = exp.charAt(0) == '(' || exp.charAt(0) == '[' ? exp : "(" + exp + ")";
            written(times("[", 19) + exp + times("]", 19), times("[", 19) + exp + times("]", 19));
            written(times("[", 20) + exp + times("]", 20), times("[", 20) + "#" + times("]", 20));
            written(times("[", 18) + "S " + argument + times("]", 18), times("[", 18) + "S " + argument + times("]", 18));
            written(times("[", 19) + "S " + argument + times("]", 19), times("[", 19) + "S #" + times("]", 19));
            written(times("[", 19) + "ref " + argument + times("]", 19), times("[", 19) + "ref #" + times("]", 19));
            written(times("[", 19) + "(" + exp + ", 1, " + exp + ")" + times("]", 19), times("[", 19) + "(#, 1, #)" + times("]", 19));
            written(times("[", 19) + "[" + exp + ", " + exp + "]" + times("]", 19), times("[", 19) + "[#, #]" + times("]", 19));
        }
        // "of the elements of one list none is in another".
        written("[" + times("(1, 2), ", 29) + "(3, 4)]", "[" + times("(1, 2), ", 29) + "(3, 4)]");
        written(times("[", 18) + "[[1], [2], [3], [4]]" + times("]", 18), times("[", 18) + "[[1], [2], [3], [4]]" + times("]", 18));
        // Functions are not gone into, and what is in a string is none of these.
        value("val x = " + times("[", 20) + "1" + times("]", 20) + " in (fn y => x, 1)", "(fn, 1)");
        // A ref within itself.
        value("datatype t = T of t ref | U in let val r = ref U in r := T r; r end", times("ref (T (", 9) + "ref (T #)" + times("))", 9));
        value("datatype t = T of t ref | U in let val r = ref U in r := T r; T r end", times("T (ref (", 9) + "T (ref #)" + times("))", 9));
        value("datatype t = T of t ref * int | U in let val r = ref U in r := T (r, 1); !r end",
            times("T (ref (", 6) + "T (#, 1)" + times("), 1)", 6));
    }

    /** "behind 1,900 bytes of it .. and nothing more". */
    private static void cut() {
        String ahead = "fun f 0 = \"\" | f n = (if n mod 2 = 1 then \"a\" else \"\") ^ (let val h = f (n div 2) in h ^ h end) in ";
        for (int n : new int[] {1896, 1897, 1898, 1899, 1900, 1901, 2047}) {
            String whole = "\"" + times("a", n) + "\"";
            cutTo(ahead + "f " + n, whole);
        }
        // Where it is cut does not matter: in a byte's digits, ahead of a sign, in a NAME.
        for (int n = 1880; n <= 1900; n++) {
            cutTo(ahead + "(f " + n + ", 12345, true)", "(\"" + times("a", n) + "\", 12345, true)");
            cutTo(ahead + "f " + n + " ^ \"\\001\\n\\\"\"", "\"" + times("a", n) + "\\001\\n\\\"\"");
            cutTo("datatype t = Name of string * int " + ahead + "[Name (f " + n + ", ~5)]", "[Name (\"" + times("a", n) + "\", ~5)]");
        }
        cutTo("fun f 0 = nil | f n = n :: f (n - 1) in f 600", numbers(600));
        cutTo("fun f 0 = nil | f n = () :: f (n - 1) in f 475", "[" + times("(), ", 474) + "()]");
        cutTo("fun f 0 = nil | f n = () :: f (n - 1) in f 476", "[" + times("(), ", 475) + "()]");
        StringBuilder doubled = new StringBuilder("0");
        for (int k = 0; k < 12; k++) {
            String one = doubled.toString();
            doubled.setLength(0);
            doubled.append("(").append(one).append(", ").append(one).append(")");
        }
        cutTo("val x = 0 " + times("val x = (x, x) ", 12) + "in x", doubled.toString());
        // Types, too.
        for (int n = 2; n <= 4; n++) {
            for (int m = 1; m <= 29; m++) cutType(n, m);
        }
    }

    private static String numbers(int n) {
        StringBuilder s = new StringBuilder("[");
        for (int k = n; k > 0; k--) s.append(k).append(k > 1 ? ", " : "]");
        return s.toString();
    }

    private static String kept(String whole) {
        return whole.length() > 1900 ? whole.substring(0, 1900) + ".." : whole;
    }

    private static void cutTo(String text, String whole) {
        value(text, kept(whole));
    }

    private static void cutType(int n, int m) {
        StringBuilder decs = new StringBuilder();
        String exp = "1";
        String type = "int";
        for (int k = 0; k < n; k++) {
            int fields = k + 1 < n ? 12 : m + 1;
            decs.append("val x").append(k).append(" = (").append(exp).append(times(", " + exp, fields - 1)).append(") ");
            exp = "x" + k;
            String one = k == 0 ? type : "(" + type + ")";
            type = one + times(" * " + one, fields - 1);
        }
        type(decs + "in " + exp, kept(type));
    }

    /** "TYPES are written: 'a 'b ..; T -> T ..; T * T ..; T NAME ..; (T, T) NAME". */
    private static void types() {
        String ahead = "datatype ('a, 'b) p = P datatype t = T in fn (x : ";
        String[][] due = {{"int", "int"}, {"bool", "bool"}, {"unit", "unit"}, {"string", "string"}, {"exn", "exn"}, {"t", "t"},
            {"int list", "int list"}, {"int ref", "int ref"}, {"int list ref list", "int list ref list"},
            {"(int -> int)", "(int -> int)"}, {"int -> int -> int", "(int -> int -> int)"}, {"(int -> int) -> int", "((int -> int) -> int)"},
            {"(int -> int) -> (int -> int)", "((int -> int) -> int -> int)"}, {"int * int", "int * int"}, {"(int * int) * int", "(int * int) * int"},
            {"int * (int * int)", "int * (int * int)"}, {"(int -> int) * int", "(int -> int) * int"}, {"int * (int -> int)", "int * (int -> int)"},
            {"int * int -> int", "(int * int -> int)"}, {"int -> int * int", "(int -> int * int)"},
            {"(int * int) list", "(int * int) list"}, {"(int -> int) list", "(int -> int) list"}, {"int list * int list", "int list * int list"},
            {"(int, bool) p", "(int, bool) p"}, {"(int * int, int -> int) p", "(int * int, int -> int) p"}, {"(int, bool) p list", "(int, bool) p list"},
            {"((int, bool) p, int list) p", "((int, bool) p, int list) p"}, {"(int, bool) p * int", "(int, bool) p * int"},
            {"(int, bool) p -> int", "((int, bool) p -> int)"}, {"int list -> int ref", "(int list -> int ref)"}};
        for (String[] row : due) type(ahead + row[0] + ") => 1", row[1] + " -> int");
        type("in fn x => x", "'a -> 'a");
        type("in fn x => fn y => y", "'a -> 'b -> 'b");
        type("in (fn y => 1, fn x => 1, fn y => y)", "('a -> int) * ('b -> int) * ('c -> 'c)");
        type("in fn (x : 'z) => x", "'a -> 'a");
        // "('z is followed by 'a1 ..)".
        StringBuilder exp = new StringBuilder();
        StringBuilder type = new StringBuilder();
        for (int k = 0; k < 84; k++) {
            String name = "'" + (char) ('a' + k % 26) + (k >= 26 ? "" + k / 26 : "");
            if (k % 28 == 0) exp.append(k > 0 ? "), (" : "(");
            if (k % 28 == 0) type.append(k > 0 ? ") * (" : "(");
            exp.append(k % 28 > 0 ? ", " : "").append("nil");
            type.append(k % 28 > 0 ? " * " : "").append(name).append(" list");
        }
        type("in (" + exp + "), 1)", type + ") * int");
        // In the order in which they come, each the same wherever it stands.
        type("in fn f => fn x => fn y => f y x", "('a -> 'b -> 'c) -> 'b -> 'a -> 'c");
        type("in (nil, fn x => fn y => [y, x], nil)", "'a list * ('b -> 'b -> 'b list) * 'c list");
    }

    public static void main(String[] args) {
        forms();
        strings();
        nested();
        cut();
        types();
        finish("what is written");
    }
}
