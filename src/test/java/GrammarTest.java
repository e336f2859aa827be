/** Part B of the document: what may stand where, and what binds how. */
public final class GrammarTest extends Houses {
    private static final String[] WIDE = {"fn x => x", "case 1 of _ => 1", "if true then 1 else 2", "while true do 1", "raise Div"};

    /** "DECS: any number, each perhaps with ; behind". */
    private static void decs() {
        type("in 1", "int");
        type("val a = 1 val b = 2 in a + b", "int");
        type("val a = 1; val b = 2; in a + b", "int");
        type("val a = 1; val rec f = fn x => a; fun g x = f x; datatype t = A of int; exception E; in (g 1, A 1, E)", "int * t * exn");
        type("val a = 1 val rec f = fn x => a fun g x = f x datatype t = A of int exception E in (g 1, A 1, E)", "int * t * exn");
        fault(SYNTAX, "val a = 1;\u00a7; in a");
        fault(SYNTAX, "fun f x = 1;\u00a7; in f");
        fault(SYNTAX, "val rec f = fn x => 1;\u00a7; in f");
        fault(SYNTAX, "datatype t = A;\u00a7; in A");
        fault(SYNTAX, "exception E;\u00a7; in E");
        fault(SYNTAX, "\u00a7; val a = 1 in a");
        fault(SYNTAX, "val a = 1; \u00a7a in a");
        fault(SYNTAX, "val a = 1\u00a7");
        fault(SYNTAX, "val a = 1 in\u00a7");
        fault(SYNTAX, "val a = 1 in 1 \u00a7val b = 2");
        fault(SYNTAX, "in 1 \u00a7in 1");
        fault(SYNTAX, "in 1\u00a7; in 1");
        fault(SYNTAX, "\u00a7let val a = 1 in a end");
        fault(SYNTAX, "\u00a7x");
    }

    /** "val PAT = EXP; val rec NAME = fn MATCH". */
    private static void vals() {
        type("val x : int = 1 in x", "int");
        type("val (x : int) = 1 in x", "int");
        type("val x :: y = [1] in (x, y)", "int * int list");
        type("val _ = 1 val 1 = 1 val () = () val [x] = [1] val x as y = 1 val ~1 = 1 val true = true in y", "int");
        type("datatype t = C of int val C x = C 1 in x", "int");
        type("val x = fn y => y in x 1", "int");
        type("val x = if true then 1 else 2 val y = raise Div val z = case 1 of a => a in x", "int");
        fault(SYNTAX, "val x \u00a7in 1");
        fault(SYNTAX, "val \u00a7= 1 in 1");
        fault(SYNTAX, "val x = \u00a7in 1");
        fault(SYNTAX, "val x = \u00a7val y = 1 in 1");
        fault(SYNTAX, "val x \u00a7:= 1 in 1");
        fault(SYNTAX, "val x = 1 \u00a7and y = 2 in 1");
        fault(SYNTAX, "val x \u00a7=> 1 in 1");
        type("val rec f = fn 0 => 1 | n => f (n - 1) in f", "int -> int");
        fault(SYNTAX, "val rec f = \u00a71 in f");
        fault(SYNTAX, "val rec f = \u00a7(fn x => x) in f");
        fault(SYNTAX, "val rec f = \u00a7f in f");
        fault(SYNTAX, "val rec f = \u00a7case 1 of x => fn y => y in f");
        fault(SYNTAX, "val rec \u00a7(f) = fn x => x in f");
        fault(SYNTAX, "val rec \u00a7_ = fn x => x in 1");
        fault(SYNTAX, "val rec f \u00a7: int -> int = fn x => x in f");
        fault(SYNTAX, "val rec f \u00a7x = fn x => x in f");
        fault(SYNTAX, "val rec f \u00a7in 1");
        fault(SYNTAX, "val rec f = fn x => x \u00a7and g = fn x => x in f");
        fault(SYNTAX, "val rec \u00a7rec f = fn x => x in f");
    }

    /** "fun CLAUSES, perhaps and CLAUSES ..; CLAUSES: NAME and one or more ATPATs, perhaps : TYPE, = EXP; perhaps | ..". */
    private static void funs() {
        type("fun f x = x in f", "'a -> 'a");
        type("fun f x : int = x in f", "int -> int");
        type("fun f (x : int) : int = x in f", "int -> int");
        type("fun f 0 = 1 | f 1 = 2 | f _ = 3 in f", "int -> int");
        type("fun f 0 = 1 | f x = 2 and g 0 = 3 | g x = 4 and h x = 5 in (f 1, g, h)", "int * (int -> int) * ('a -> int)");
        type("fun f x : int = 1 | f y : int = 2 in f 1", "int");
        type("fun f _ 1 () (a, b) [c] nil ~1 = a in f", "'a -> int -> unit -> 'b * 'c -> 'd list -> 'e list -> int -> 'b");
        fault(SYNTAX, "fun f \u00a7= 1 in f");
        fault(SYNTAX, "fun f \u00a7: int = 1 in f");
        fault(SYNTAX, "fun \u00a71 x = 1 in 1");
        fault(SYNTAX, "fun \u00a7(f) x = 1 in 1");
        fault(SYNTAX, "fun x \u00a7:: y = 1 in 1");
        fault(SYNTAX, "fun f x \u00a7| f y = 1 in f");
        fault(SYNTAX, "fun f x \u00a7in f");
        fault(SYNTAX, "fun f x \u00a7=> 1 in f");
        fault(SYNTAX, "fun f x : \u00a7= 1 in f");
        fault(SYNTAX, "fun f x : int \u00a7: int = 1 in f");
        fault(SYNTAX, "fun f x = 1 | \u00a71 in f");
        fault(SYNTAX, "fun f x = 1 | f \u00a7= 1 in f");
        fault(SYNTAX, "fun f x = 1 | \u00a7in f");
        fault(SYNTAX, "fun f x = 1 and \u00a7in f");
        fault(SYNTAX, "fun f x = 1 and g \u00a7= 2 in f");
        fault(SYNTAX, "fun f x = 1 and \u00a7fun g x = 2 in f");
        fault(SYNTAX, "fun f x \u00a7as y = 1 in f");
        fault(SYNTAX, "fun f x \u00a7:: y = 1 in f");
        fault(SYNTAX, "fun f \u00a7\"\" = 1 in f");
        // A | belongs to the innermost MATCH.
        fault(SYNTAX, "fun f x = fn 1 => 2 | f y \u00a7= 3 in f");
        fault(SYNTAX, "fun f x = 1 handle _ => 2 | f y \u00a7= 3 in f");
        type("fun f x = (fn 1 => 2) | f y = fn _ => 3 in f", "'a -> int -> int");
        type("fun f x = if true then 1 else 2 | f y = 3 in f", "'a -> int");
    }

    /** "datatype TYVARS NAME = CONS | CONS .., perhaps and ..; exception NAME, perhaps of TYPE". */
    private static void datatypes() {
        type("datatype t = A in A", "t");
        type("datatype t = A | B of int | C in (A, B 1, C)", "t * t * t");
        type("datatype 'a t = A of 'a in A 1", "int t");
        type("datatype ('a) t = A of 'a in A 1", "int t");
        type("datatype ('a, 'b, 'val) t = A of 'a | B of 'b | C of 'val in [A 1, B (), C true]", "(int, unit, bool) t list");
        type("datatype t = A of u and 'a u2 = B of 'a and u = C in (A C, B C)", "t * u u2");
        type("datatype t = A of int -> t * t list in A", "(int -> t * t list) -> t");
        fault(SYNTAX, "datatype (\u00a7) t = A in 1");
        fault(SYNTAX, "datatype ('a \u00a7'b) t = A in 1");
        fault(SYNTAX, "datatype ('a, \u00a7) t = A in 1");
        fault(SYNTAX, "datatype (\u00a7a) t = A in 1");
        fault(SYNTAX, "datatype ('a \u00a7list) t = A in 1");
        fault(SYNTAX, "datatype (\u00a7('a)) t = A in 1");
        fault(SYNTAX, "datatype 'a \u00a7'b t = A in 1");
        fault(SYNTAX, "datatype \u00a7= A in 1");
        fault(SYNTAX, "datatype 'a \u00a7= A in 1");
        fault(SYNTAX, "datatype t \u00a7in 1");
        fault(SYNTAX, "datatype t \u00a7u = A in 1");
        fault(SYNTAX, "datatype t \u00a7'a = A in 1");
        fault(SYNTAX, "datatype t = \u00a71 in 1");
        fault(SYNTAX, "datatype t = \u00a7in 1");
        fault(SYNTAX, "datatype t = A | \u00a7in 1");
        fault(SYNTAX, "datatype t = \u00a7| A in 1");
        fault(SYNTAX, "datatype t = A \u00a7B in 1");
        fault(SYNTAX, "datatype t = A \u00a7int in 1");
        fault(SYNTAX, "datatype t = A of \u00a7in 1");
        fault(SYNTAX, "datatype t = A of \u00a7| B in 1");
        fault(SYNTAX, "datatype t = A and \u00a7in 1");
        fault(SYNTAX, "datatype t = A and \u00a7datatype u = B in 1");
        fault(SYNTAX, "datatype t = \u00a7:: of int in 1");
        fault(SYNTAX, "datatype t = \u00a7ref of int in 1");
        type("exception E in E", "exn");
        type("exception E of int * int in E", "int * int -> exn");
        fault(SYNTAX, "exception \u00a71 in 1");
        fault(SYNTAX, "exception \u00a7in 1");
        fault(SYNTAX, "exception E of \u00a7in 1");
        fault(SYNTAX, "exception E \u00a7| F in 1");
        fault(SYNTAX, "exception E \u00a7and F in 1");
        fault(SYNTAX, "exception E \u00a7= Div in 1");
        fault(SYNTAX, "exception E \u00a7int in 1");
        // "datatype and exception only in the outermost DECS", there behind any others.
        type("val a = 1 exception E fun f x = E datatype t = A val b = A in (f 1, b)", "exn * t");
        fault(SYNTAX, "in let \u00a7datatype t = A in 1 end");
        fault(SYNTAX, "in let \u00a7exception E in 1 end");
        fault(SYNTAX, "in let val a = 1; \u00a7datatype t = A in 1 end");
        fault(SYNTAX, "val a = let fun f x = x \u00a7exception E in 1 end in 1");
    }

    /** What an argument annotated by the type has for a type. */
    private static void annotated(String text, String type) {
        type("datatype t = T datatype ('a, 'b) p = P datatype 'a o = O in fn (x : " + text + ") => 1", type + " -> int");
    }

    private static void noType(String marked) {
        fault(SYNTAX, "in fn (x : " + marked + ") => 1");
    }

    /** "TYPE: a product .. perhaps -> TYPE (from the right); in a product: 'a, NAME, ( TYPE ), or ( TYPE, TYPE .. ) NAME, ..". */
    private static void types() {
        annotated("int", "int");
        annotated("t", "t");
        annotated("int list ref", "int list ref");
        annotated("int * bool", "int * bool");
        annotated("int * bool * unit", "int * bool * unit");
        annotated("(int * bool) * unit", "(int * bool) * unit");
        annotated("int * (bool * unit)", "int * (bool * unit)");
        annotated("int -> bool -> unit", "(int -> bool -> unit)");
        annotated("(int -> bool) -> unit", "((int -> bool) -> unit)");
        annotated("int -> (bool -> unit)", "(int -> bool -> unit)");
        annotated("int * bool -> unit * string", "(int * bool -> unit * string)");
        annotated("int * (bool -> unit)", "int * (bool -> unit)");
        annotated("int list * exn ref", "int list * exn ref");
        annotated("(int * bool) list", "(int * bool) list");
        annotated("(int -> bool) ref", "(int -> bool) ref");
        annotated("((int))", "int");
        annotated("(int) list", "int list");
        annotated("(int, bool) p", "(int, bool) p");
        annotated("(int, bool) p list ref", "(int, bool) p list ref");
        annotated("(int * bool, unit -> t) p", "(int * bool, unit -> t) p");
        annotated("((int, bool) p, (int, bool) p) p o", "((int, bool) p, (int, bool) p) p o");
        annotated("'a list -> 'b", "('a list -> 'b)");
        annotated("'a ref", "'a ref");
        noType("\u00a7");
        noType("\u00a71");
        noType("int * \u00a7");
        noType("int -> \u00a7");
        noType("\u00a7-> int");
        noType("\u00a7* int");
        noType("int * \u00a7* int");
        noType("int -> \u00a7-> int");
        noType("(\u00a7)");
        noType("(int, bool)\u00a7");
        noType("(int, bool) \u00a7* int");
        noType("(int, bool) \u00a7-> int");
        noType("(int, bool) \u00a7'a");
        noType("(int, bool) \u00a7(int)");
        noType("(int, \u00a7) t");
        noType("(\u00a7, int) t");
        noType("int \u00a7'a");
        noType("int \u00a7(int)");
        noType("'a \u00a7'b");
        noType("\u00a7[int]");
        noType("unit \u00a7()");
        noType("\u00a7_");
        fault(SYNTAX, "in (1 : list \u00a7(int))");
        fault(SYNTAX, "in (1 : \u00a7val)");
    }

    /** "PAT: PAT2 :: PAT (from the right), or PAT2; perhaps : TYPE behind all. PAT2: NAME as PAT; .. ATPAT: ..". */
    private static void pats() {
        String ahead = "datatype t = N | C of int * int | L of int list in fn ";
        type(ahead + "x :: y :: z => (x, y, z)", "'a list -> 'a * 'a * 'a list");
        type(ahead + "(x :: y) :: z => (x, y, z)", "'a list list -> 'a * 'a list * 'a list list");
        type(ahead + "x :: y : int list => (x, y)", "int list -> int * int list");
        type(ahead + "(x : int) :: y => (x, y)", "int list -> int * int list");
        type(ahead + "x as y => (x, y)", "'a -> 'a * 'a");
        type(ahead + "x as y as z => (x, y, z)", "'a -> 'a * 'a * 'a");
        type(ahead + "x as y :: z => (x, y, z)", "'a list -> 'a list * 'a * 'a list");
        type(ahead + "x as y : int => (x, y)", "int -> int * int");
        type(ahead + "a :: x as y :: z => (a, x, y, z)", "'a list -> 'a * 'a list * 'a * 'a list");
        type(ahead + "a :: x as y : int list => (a, x, y)", "int list -> int * int list * int list");
        type(ahead + "(x as y) :: z => (x, y, z)", "'a list -> 'a * 'a * 'a list");
        type(ahead + "C x => x", "t -> int * int");
        type(ahead + "C (x, y) => (y, x)", "t -> int * int");
        type(ahead + "C x :: y => (x, y)", "t list -> (int * int) * t list");
        type(ahead + "L [x, y] => x + y | N => 1 | _ => 2", "t -> int");
        type(ahead + "[] => 1 | [_] => 2 | [_, _] => 3 | _ => 4", "'a list -> int");
        type(ahead + "() => 1", "unit -> int");
        type(ahead + "(((x))) => x", "'a -> 'a");
        type(ahead + "(x : int, y : bool) => x", "int * bool -> int");
        type(ahead + "[x : int, y] => y", "int list -> int");
        type(ahead + "true => 1 | false => 2", "bool -> int");
        type(ahead + "1 => 1 | ~1 => 2 | _ => 3", "int -> int");
        type(ahead + "Div => 1 | Match => 2", "exn -> int");
        fault(NAME, ahead + "\u00a7x y => 1");
        fault(SYNTAX, ahead + "x :: y : int list \u00a7:: z => 1");
        fault(SYNTAX, ahead + "x : int \u00a7: int => 1");
        fault(SYNTAX, ahead + "x y \u00a7z => 1");
        fault(SYNTAX, ahead + "C x \u00a7as y => 1");
        fault(SYNTAX, ahead + "C x \u00a7y => 1");
        fault(SYNTAX, ahead + "C \u00a7\"\" => 1");
        fault(SYNTAX, ahead + "_ \u00a7as x => 1");
        fault(SYNTAX, ahead + "(x) \u00a7as y => 1");
        fault(SYNTAX, ahead + "1 \u00a7as x => 1");
        fault(SYNTAX, ahead + "_ \u00a71 => 1");
        fault(SYNTAX, ahead + "x as \u00a7=> 1");
        fault(SYNTAX, ahead + "x :: \u00a7=> 1");
        fault(SYNTAX, ahead + "\u00a7:: x => 1");
        fault(SYNTAX, ahead + "\u00a7=> 1");
        fault(SYNTAX, ahead + "\u00a7\"a\" => 1");
        fault(SYNTAX, ahead + "\u00a7~ 1 => 1");
        fault(SYNTAX, ahead + "\u00a7!x => 1");
        fault(SYNTAX, ahead + "\u00a7ref x => 1");
        fault(SYNTAX, ahead + "\u00a7fn => 1");
        fault(SYNTAX, ahead + "x \u00a7+ 1 => 1");
        fault(SYNTAX, ahead + "x \u00a7= 1 => 1");
        fault(SYNTAX, ahead + "(x, \u00a7) => 1");
        fault(SYNTAX, ahead + "(\u00a7, x) => 1");
        fault(SYNTAX, ahead + "(x\u00a7; y) => 1");
        fault(SYNTAX, ahead + "(x\u00a7] => 1");
        fault(SYNTAX, ahead + "[x\u00a7; y] => 1");
        fault(SYNTAX, ahead + "[x, \u00a7] => 1");
        fault(SYNTAX, ahead + "[\u00a7, x] => 1");
        fault(SYNTAX, ahead + "[x\u00a7) => 1");
        fault(SYNTAX, ahead + "x : \u00a7=> 1");
        fault(SYNTAX, ahead + "x \u00a7| y => 1");
    }

    /** "EXP: fn MATCH; case EXP of MATCH; if ..; while ..; raise EXP; or LOW, perhaps handle MATCH." */
    private static void exps() {
        type("in fn x => x", "'a -> 'a");
        type("in fn 1 => 2 | 2 => 3 | _ => 4", "int -> int");
        type("in case 1 of 1 => 2 | _ => 3", "int");
        type("in if true then 1 else if false then 2 else 3", "int");
        type("in while true do while false do 1", "unit");
        type("in raise raise Div", "'a");
        type("in 1 handle Div => 2 | Match => 3 | _ => 4", "int");
        type("in case case 1 of x => x of y => y", "int");
        type("in fn x => fn y => case x of 1 => y | _ => y + 1", "int -> int -> int");
        type("in raise Div handle _ => Match", "'a");
        fault(TYPE, "in raise Div handle _ => \u00a71");
        value("in (raise Div) handle _ => 1", "1");
        value("in (fn x => x div 0 handle Div => 7) 1", "7");
        value("in (if false then 1 else 1 div 0 handle Div => 7)", "7");
        raised("in (if true then 1 div 0 else 2 handle Div => 7)", "Div");
        raised("in (case 1 div 0 of x => x handle Div => 7)", "Div");
        value("in (case 1 of x => x div 0 handle Div => 7)", "7");
        value("in 1 + 1 div 0 handle Div => 7", "7");
        value("in [2, 1 div 0 handle Div => 7]", "[2, 7]");
        value("in (1 div 0 handle Div => 1 div 0 handle Div => 8)", "8");
        fault(SYNTAX, "in fn \u00a7");
        fault(SYNTAX, "in fn x \u00a7= 1");
        fault(SYNTAX, "in fn x => \u00a7");
        fault(SYNTAX, "in fn x => 1 | \u00a7");
        fault(SYNTAX, "in fn \u00a7| x => 1");
        fault(SYNTAX, "in case \u00a7of x => 1");
        fault(SYNTAX, "in case 1 x \u00a7=> 1");
        fault(SYNTAX, "in case 1 of \u00a7");
        fault(SYNTAX, "in case 1 of \u00a7| x => 1");
        fault(SYNTAX, "in case 1 of x \u00a7= 1");
        fault(SYNTAX, "in case 1 of x => 1 \u00a7end");
        fault(SYNTAX, "in if \u00a7then 1 else 2");
        fault(SYNTAX, "in if true \u00a7else 2");
        fault(SYNTAX, "in if true then \u00a7else 2");
        fault(SYNTAX, "in if true then 1\u00a7");
        fault(SYNTAX, "in if true then 1 else\u00a7");
        fault(SYNTAX, "in (if true then 1\u00a7)");
        fault(SYNTAX, "in while \u00a7do 1");
        fault(SYNTAX, "in while true\u00a7; 1");
        fault(SYNTAX, "in while true do\u00a7");
        fault(SYNTAX, "in raise\u00a7");
        fault(SYNTAX, "in 1 handle\u00a7");
        fault(SYNTAX, "in 1 handle Div \u00a7= 1");
        fault(SYNTAX, "in \u00a7handle Div => 1");
        fault(SYNTAX, "in 1 \u00a7=> 1");
        fault(SYNTAX, "in 1 \u00a7| 1");
    }

    /** "LOW, from the weakest: ..": what is bound more can be seen by values and types. */
    private static void strengths() {
        value("in 1 + 2 * 3", "7");
        value("in 2 * 3 + 1", "7");
        value("in 7 - 6 div 3", "5");
        value("in 7 - 6 mod 4", "5");
        value("in \"a\" ^ str (1 + 2)", "\"a3\"");
        value("in 1 + 2 :: 3 * 4 :: []", "[3, 12]");
        value("in (1 + 2 = 3, 4 < 2 * 3, 1 <> 1 - 1, 6 >= 2 + 3, 5 <= 2 + 2, 7 > 3 + 3)", "(true, true, true, true, false, true)");
        fault(TYPE, "in 1 :: [] \u00a7= []");
        fault(TYPE, "in 1 \u00a7= 2 :: []");
        fault(TYPE, "in 1 \u00a7< 2 :: 3 :: []");
        fault(TYPE, "in true \u00a7andalso true :: []");
        fault(TYPE, "in (1 \u00a7:: 2 = 3)");
        value("val b = ref true in (b := 1 = 2; !b)", "false");
        value("val l = ref [1] in (l := 2 :: [3]; !l)", "[2, 3]");
        type("in ref 1 := 2 : unit", "unit");
        type("in 1 = 2 : bool", "bool");
        type("in 1 :: [] : int list", "int list");
        type("in 1 + 2 : int : int : int", "int");
        type("in true andalso 1 = 2 : bool", "bool");
        fault(TYPE, "in 1 :: [] \u00a7: int");
        fault(SYNTAX, "in 1 : int \u00a7+ 2");
        fault(SYNTAX, "in 1 : int * \u00a72");
        fault(SYNTAX, "in 1 : int \u00a7:: []");
        fault(SYNTAX, "in 1 : int \u00a7< 2");
        fault(SYNTAX, "in ref 1 : int ref \u00a7:= 2");
        fault(SYNTAX, "in 1 : int \u00a72");
        type("in true : bool andalso false : bool orelse true : bool", "bool");
        type("in 1 : int handle _ => 2", "int");
        value("in true orelse false andalso false", "true");
        value("in false andalso false orelse true", "true");
        value("in false andalso (false orelse true)", "false");
        value("in 1 = 1 andalso 1 = 2 orelse 3 = 3 andalso 2 = 2", "true");
        value("in not true orelse true", "true");
        value("in ~ 1 + 2", "1");
        value("in ~ (1 + 2)", "~3");
        value("val r = ref 5 in !r + 1", "6");
        value("fun f x = x * 2 in f 1 + f 2 * f 3", "26");
        value("fun f x y = x - y in f 1 2 - f 3 4", "0");
        value("fun f x = x fun g x = x + 1 in f g 1", "2");
    }

    /** "All from the left but orelse, andalso, :: (from the right)." */
    private static void sides() {
        value("in 10 - 3 - 2", "5");
        value("in 10 - 3 + 2", "9");
        value("in 100 div 10 div 5", "2");
        value("in 100 div 10 * 3", "30");
        value("in 17 mod 10 mod 4", "3");
        value("in 17 * 3 mod 10", "1");
        value("in (\"a\" ^ \"b\" ^ \"c\", 1 - 2 + 3 - 4)", "(\"abc\", ~2)");
        words("in \"aaaa\" ^ \"bbbb\" ^ \"cccc\"", 2 + 2 + 3 + 2 + 4);
        words("in \"aaaa\" ^ (\"bbbb\" ^ \"cccc\")", 2 + 2 + 2 + 3 + 4);
        pile("in 1 - 2 - 3", 2);
        pile("in 1 :: 2 :: []", 3);
        fault(TYPE, "in 1 = 2 \u00a7= 3");
        fault(TYPE, "in 1 < 2 \u00a7< 3");
        fault(TYPE, "in 1 + 2 = 3 \u00a7<> true");
        fault(TYPE, "in ref 1 := 2 \u00a7:= 3");
        value("in 1 :: 2 :: 3 :: []", "[1, 2, 3]");
        fault(TYPE, "in 1 :: 2 \u00a7:: 3");
        value("fun f x y = x - y in f 7 2", "5");
        puts("in (true orelse (put 1; true) orelse (put 2; true); false andalso (put 3; true) andalso (put 4; true))", "");
    }

    /** "Right of orelse, andalso and := may also stand what begins with fn, case, if, while, raise." */
    private static void wides() {
        for (String wide : WIDE) {
            for (String sign : "= <> < > <= >= :: + - ^ * div mod".split(" ")) fault(SYNTAX, "in (1 " + sign + " \u00a7" + wide + ")");
            for (String sign : "~ ! ref not".split(" ")) fault(SYNTAX, "in (" + sign + " \u00a7" + wide + ")");
            fault(SYNTAX, "in (1 : \u00a7" + wide + ")");
            for (String ahead : new String[] {"", "val x = ", "fun f y = ", "val rec f = fn y => "}) {
                String behind = ahead.isEmpty() ? "" : " in 1";
                String begin = ahead.isEmpty() ? "in " : ahead;
                good(begin + wide + behind);
                good(begin + "(" + wide + ")" + behind);
                good(begin + "(1, " + wide + ", 2)" + behind);
                good(begin + "(" + wide + "; " + wide + ")" + behind);
                good(begin + "[" + wide + "]" + behind);
                good(begin + "let in " + wide + "; " + wide + " end" + behind);
                good(begin + "if false then " + wide + " else " + wide + behind);
                good(begin + "while false do " + wide + behind);
                good(begin + "fn 1 => " + wide + " | _ => " + wide + behind);
                good(begin + "case " + wide + " of _ => " + wide + behind);
                good(begin + "(raise Div) handle Div => " + wide + behind);
            }
        }
        value("in true andalso if 1 = 2 then false else true", "true");
        value("in false orelse case 1 of 1 => true | _ => false", "true");
        raised("in false orelse raise Div", "Div");
        type("in true andalso raise Div", "bool");
        fault(TYPE, "in true \u00a7andalso fn x => x");
        fault(TYPE, "in true \u00a7orelse while true do 1");
        value("val r = ref (fn x => x) in (r := fn x => x + 1; !r 2)", "3");
        value("val r = ref 1 in (r := case 2 of x => x * 5; !r)", "10");
        value("val r = ref 1 in (r := if true then 7 else 8; !r)", "7");
        value("val r = ref () in (r := while false do 1; !r)", "()");
        value("in true orelse false orelse if true then false else true andalso false", "true");
        // What begins so takes all that it can.
        value("in false andalso if true then true else true orelse true", "false");
        value("in (1 = 2 andalso case 1 of _ => true) orelse true", "true");
        value("in false orelse if true then false else true handle _ => true", "false");
        fault(SYNTAX, "in (true andalso if true then true else true \u00a7then)");
    }

    /** "ATEXP: NAME; NUMBER; STRING; ~, !, ref (functions); ( ); ( EXP ); ( EXP, .. ); ( EXP; .. ); [ EXP, .. ]; let ..". */
    private static void atexps() {
        type("in ()", "unit");
        type("in ( )", "unit");
        type("in ((((1))))", "int");
        type("in (1, true, ())", "int * bool * unit");
        type("in ((1, true), ())", "(int * bool) * unit");
        type("in (1; true; ())", "unit");
        type("in []", "'a list");
        type("in [ ]", "'a list");
        type("in [1]", "int list");
        type("in [[1], [], [2, 3]]", "int list list");
        type("in (~, !, ref)", "(int -> int) * ('a ref -> 'a) * ('b -> 'b ref)");
        type("in let in 1 end", "int");
        type("in let val x = 1 in x end", "int");
        type("in let val x = 1; fun f y = x; in f 1; f 2; (f, x) end", "('a -> int) * int");
        type("in let val x = 1 in let val y = x in y end + x end", "int");
        type("in let in 1 end :: [let in 2 end]", "int list");
        type("in (fn x => fn y => (x, y)) let in 1 end [true]", "int * bool list");
        type("in (fn x => fn y => fn z => z) \"a\" () (1, 2)", "int * int");
        fault(SYNTAX, "in (1,\u00a7)");
        fault(SYNTAX, "in (\u00a7, 1)");
        fault(SYNTAX, "in (1;\u00a7)");
        fault(SYNTAX, "in (\u00a7; 1)");
        fault(SYNTAX, "in (1\u00a7");
        fault(SYNTAX, "in (\u00a7");
        fault(SYNTAX, "in (1\u00a7]");
        fault(SYNTAX, "in (1, 2\u00a7; 3)");
        fault(SYNTAX, "in (1; 2\u00a7, 3)");
        fault(SYNTAX, "in (\u00a7val x = 1)");
        fault(SYNTAX, "in [1\u00a7; 2]");
        fault(SYNTAX, "in [\u00a7, 1]");
        fault(SYNTAX, "in [1,\u00a7]");
        fault(SYNTAX, "in [1\u00a7)");
        fault(SYNTAX, "in [1\u00a7");
        fault(SYNTAX, "in \u00a7]");
        fault(SYNTAX, "in \u00a7)");
        fault(SYNTAX, "in let in \u00a7end");
        fault(SYNTAX, "in let in 1; \u00a7end");
        fault(SYNTAX, "in let val x = 1 \u00a7end");
        fault(SYNTAX, "in let in 1\u00a7");
        fault(SYNTAX, "in let in 1\u00a7, 2 end");
        fault(SYNTAX, "in let \u00a71 in 2 end");
        fault(SYNTAX, "in let val x = 1;\u00a7; in x end");
        fault(SYNTAX, "in let in 1 end \u00a7end");
        fault(SYNTAX, "in \u00a7+ 1");
        fault(SYNTAX, "in 1 + \u00a7* 2");
        fault(SYNTAX, "in \u00a7_");
        fault(SYNTAX, "in \u00a7div 1");
        fault(SYNTAX, "in (\u00a7::) 1");
    }

    /** "KNOWN ahead: types .. constructors .. exceptions .. functions". */
    private static void known() {
        type("in fn (a : int, b : bool, c : unit, d : string, e : exn, f : 'a list, g : 'a ref) => 1",
            "int * bool * unit * string * exn * 'a list * 'a ref -> int");
        type("in (true, false, nil, 1 :: nil)", "bool * bool * 'a list * int list");
        type("in [Match, Bind, Div, Subscript, Chr]", "exn list");
        value("in [Match, Bind, Div, Subscript, Chr]", "[Match, Bind, Div, Subscript, Chr]");
        String[][] functions = {{"~", "int -> int"}, {"!", "'a ref -> 'a"}, {"ref", "'a -> 'a ref"}, {"not", "bool -> bool"},
            {"print", "string -> unit"}, {"put", "int -> unit"}, {"str", "int -> string"}, {"chr", "int -> string"},
            {"size", "string -> int"}, {"sub", "string * int -> int"}, {"given", "int -> int"}, {"many", "unit -> int"}};
        for (int k = 0; k < functions.length; k++) {
            String name = functions[k][0];
            type("in " + name, functions[k][1]);
            value("in " + name, "fn");
            if (k < 3) continue;
            // "They can be hidden like others".
            type("val " + name + " = () in " + name, "unit");
            type("fun " + name + " x = () in " + name, "'a -> unit");
            type("val rec " + name + " = fn x => 1 in " + name, "'a -> int");
            type("in fn " + name + " => " + name + " + 1", "int -> int");
            type("in case 1 of " + name + " as x => [" + name + ", x]", "int list");
            type("datatype t = " + name + " in " + name, "t");
            type("exception " + name + " of int in " + name, "int -> exn");
            type("in (let val " + name + " = 1 in " + name + " end, " + name + ")", "int * (" + functions[k][1] + ")");
            type("datatype " + name + " = A in (A, " + name + ")", name + " * (" + functions[k][1] + ")");
        }
        // "(but types, ::, [ ], ~, !, ref)".
        for (String name : "int bool unit string exn list".split(" ")) {
            fault(AGAIN, "datatype \u00a7" + name + " = A in 1");
            type("val " + name + " = 1 in " + name, "int");
            type("datatype t = " + name + " in " + name, "t");
        }
        fault(SYNTAX, "datatype \u00a7ref = A in 1");
        fault(SYNTAX, "val \u00a7~ = 1 in 1");
        fault(SYNTAX, "val \u00a7! = 1 in 1");
        fault(SYNTAX, "val \u00a7ref = 1 in 1");
        fault(SYNTAX, "fun \u00a7! x = 1 in 1");
        fault(SYNTAX, "exception \u00a7ref in 1");
        fault(NAME, "in (1 : \u00a7foo)");
        fault(NAME, "in \u00a7int");
        fault(NAME, "in (1 : \u00a7true)");
        fault(NAME, "in \u00a7foo");
        fault(NAME, "in \u00a7Foo");
        fault(NAME, "in \u00a7hd");
    }

    public static void main(String[] args) {
        decs();
        vals();
        funs();
        datatypes();
        types();
        pats();
        exps();
        strengths();
        sides();
        wides();
        atexps();
        known();
        finish("the grammar");
    }
}
