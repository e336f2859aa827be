/** Part C of the document: of val PAT = EXP what is declared becomes general only if EXP is VALUED. */
public final class ValuedTest extends Houses {
    /** Whether val x = EXP makes x general: then it can be used at both types. */
    private static void valued(boolean is, String exp, String one, String other) {
        String ahead = "datatype 'a o = N | S of 'a datatype 'a t = C of 'a list exception E of int "
            + "val n = nil fun i y = y val x = " + exp + " in (x : " + one + "; x ";
        if (is) type(ahead + ": " + other + ")", other);
        else fault(TYPE, ahead + "\u00a7: " + other + ")");
    }

    private static void valuedList(boolean is, String exp) {
        valued(is, exp, "int list", "bool list");
    }

    private static void valuedPair(boolean is, String exp, String type) {
        valued(is, "(" + exp + ", nil)", type + " * int list", type + " * bool list");
    }

    private static void valuedForms() {
        valuedList(true, "nil");
        valuedList(true, "n");
        valuedList(true, "[]");
        valuedList(true, "(n)");
        valuedList(true, "((nil))");
        valuedList(true, "nil : 'b list");
        valuedList(true, "(n : 'b list) : 'b list");
        valued(true, "i", "int -> int", "bool -> bool");
        valued(true, "N", "int o", "bool o");
        valued(true, "S", "int -> int o", "bool -> bool o");
        valued(false, "ref", "int -> int ref", "bool -> bool ref");
        valued(false, "(ref)", "int -> int ref", "bool -> bool ref");
        valued(false, "ref : 'b -> 'b ref", "int -> int ref", "bool -> bool ref");
        valued(true, "fn y => i y", "int -> int", "bool -> bool");
        valuedPair(true, "1", "int");
        valuedPair(true, "~1", "int");
        valuedPair(true, "\"a\"", "string");
        valuedPair(true, "()", "unit");
        valuedPair(true, "true", "bool");
        valuedPair(true, "Div", "exn");
        valuedPair(true, "print", "(string -> unit)");
        valuedPair(true, "E 1", "exn");
        valuedPair(true, "1 : int", "int");
        valuedPair(false, "E (i 1)", "exn");
        valuedPair(false, "~ 1", "int");
        valuedPair(false, "!(ref 1)", "int");
        valuedPair(false, "ref 1", "int ref");
        valuedPair(false, "1 + 2", "int");
        valuedPair(false, "1 < 2", "bool");
        valuedPair(false, "\"a\" ^ \"b\"", "string");
        valuedPair(false, "true andalso true", "bool");
        valuedPair(false, "true orelse true", "bool");
        valuedPair(false, "ref 1 := 2", "unit");
        valuedPair(false, "while false do ()", "unit");
        valuedConstructors();
        valuedOthers();
    }

    private static void valuedConstructors() {
        valued(true, "S nil", "int list o", "bool list o");
        valued(true, "S (fn y => y)", "(int -> int) o", "(bool -> bool) o");
        valued(true, "S (S (nil, 1))", "(int list * int) o o", "(bool list * int) o o");
        valued(true, "(C nil)", "int t", "bool t");
        valued(true, "C nil : 'b t", "int t", "bool t");
        valued(true, "C (nil : 'b list)", "int t", "bool t");
        valued(false, "(C : 'b list -> 'b t) nil", "int t", "bool t");
        valued(false, "((C) : 'b list -> 'b t) nil", "int t", "bool t");
        valued(false, "((C : 'b list -> 'b t)) nil", "int t", "bool t");
        valued(false, "[(C : 'b list -> 'b t) nil]", "int t list", "bool t list");
        valued(false, "S ((C : 'b list -> 'b t) nil)", "int t o", "bool t o");
        valued(false, "C (i nil)", "int t", "bool t");
        valued(false, "S (ref nil)", "int list ref o", "bool list ref o");
        valued(false, "ref nil", "int list ref", "bool list ref");
        valued(false, "(let in C end) nil", "int t", "bool t");
        valued(false, "(1; C) nil", "int t", "bool t");
        valued(false, "(if true then C else C) nil", "int t", "bool t");
        valued(false, "(fn y => C y) nil", "int t", "bool t");
        valued(true, "[nil]", "int list list", "bool list list");
        valued(true, "[nil, n, []]", "int list list", "bool list list");
        valued(false, "[nil, i nil]", "int list list", "bool list list");
        valued(false, "[i nil, nil]", "int list list", "bool list list");
        valued(true, "nil :: n", "int list list", "bool list list");
        valued(false, "i nil :: nil", "int list list", "bool list list");
        valued(false, "nil :: i nil", "int list list", "bool list list");
        valued(true, "(nil, [(1, fn y => 2)])", "int list * (int * (int -> int)) list", "bool list * (int * (bool -> int)) list");
        valued(false, "(nil, i 1)", "int list * int", "bool list * int");
        valued(false, "(i 1, nil)", "int * int list", "int * bool list");
    }

    private static void valuedOthers() {
        valuedList(false, "i nil");
        valuedList(false, "(fn y => y) nil");
        valuedList(false, "(nil; nil)");
        valuedList(false, "let in nil end");
        valuedList(false, "if true then nil else nil");
        valuedList(false, "case 1 of _ => nil");
        valuedList(false, "raise Div");
        valuedList(false, "nil handle _ => nil");
        valuedList(false, "i nil : 'b list");
        valuedList(false, "(i nil)");
    }

    public static void main(String[] args) {
        valuedForms();
        finish("what is VALUED");
    }
}
