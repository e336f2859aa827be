/** Texts of all parts of the document, one thing and another in each. */
public final class MixedTest extends Houses {
    private static void tokens() {
        fault(TOKEN, "in \u00a7\u0007");
        fault(TOKEN, "in \u00a7#");
        fault(TOKEN, "in 1 \u00a7(* (* *)");
        fault(TOKEN, "in \u00a7\"abc");
        fault(TOKEN, "in \u00a7\"a\\q\"");
        fault(TOKEN, "in \u00a7\"a\\256\"");
        fault(TOKEN, "in \u00a7\"a\\25\"");
        fault(TOKEN, "in \u00a7\"a\u0001\"");
        fault(TOKEN, "in \u00a7\"" + times("a", 201) + "\"");
        value("in size \"" + times("\\065", 200) + "\"", "200");
        fault(TOKEN, "in \u00a7" + times("a", 32));
        fault(NAME, "in \u00a7" + times("a", 31));
        fault(TOKEN, "in fn (x : \u00a7'" + times("a", 32) + ") => x");
        type("in fn (x : '" + times("a", 31) + ") => x", "'a -> 'a");
        type("in fn (x : 'val) => x", "'a -> 'a");
        fault(TOKEN, "in fn (x : \u00a7''a) => x");
        fault(TOKEN, "in \u00a712a");
        fault(TOKEN, "in \u00a71_");
        fault(TOKEN, "in \u00a7~1'");
        fault(TOKEN, "in \u00a71073741824");
        fault(TOKEN, "in \u00a7~1073741825");
        fault(TOKEN, "in \u00a7" + times("9", 60));
        value("in (~1073741824, 1073741823, 0000000000000000000012, ~0)", "(~1073741824, 1073741823, 12, 0)");
        fault(NAME, "in \u00a7x~1");
        fault(TYPE, "in 1\u00a7~1");
        fault(TYPE, "in (1)\u00a7~1");
        fault(TYPE, "in 1(**)\u00a7~1");
        fault(TYPE, "in 1 \u00a7~1");
        value("in ~ ~1", "1");
        value("in ~~1", "1");
        value("in (* a (* b *) \u0000\u00ff \" *) 1 (**)", "1");
        value("in \"a\n\tb\\000\\255\\\\\\\"\"", "\"a\\n\\tb\\000\\255\\\\\\\"\"");
        fault(SYNTAX, "in (\u00a7_abc)");
        fault(SYNTAX, "in a::\u00a7=b");
    }

    private static void grammar() {
        fault(SYNTAX, "\u00a7");
        fault(SYNTAX, "in 1 +\u00a7");
        fault(SYNTAX, "in 1\u00a7;");
        fault(SYNTAX, "val x = 1;\u00a7; in x");
        fault(SYNTAX, "in let \u00a7datatype t = A in A end");
        fault(SYNTAX, "in let \u00a7exception E in 1 end");
        fault(SYNTAX, "in 1 + \u00a7if true then 1 else 2");
        fault(SYNTAX, "in (1, 2\u00a7; 3)");
        fault(SYNTAX, "in (1; 2\u00a7, 3)");
        fault(SYNTAX, "val rec f = \u00a7g in f");
        fault(SYNTAX, "fun f \u00a7= 1 in f");
        fault(SYNTAX, "fun f x = case x of 1 => 2 | f y \u00a7= 3 in f");
        fault(SYNTAX, "in fn (x : int \u00a7: int) => x");
        fault(SYNTAX, "in fn x as\u00a7");
        fault(SYNTAX, "in fn C x \u00a7as y => 1");
        fault(SYNTAX, "datatype t = \u00a7| A in A");
        fault(SYNTAX, "datatype \u00a7ref = A in A");
        fault(SYNTAX, "in (1 : (int, bool)\u00a7)");
        fault(SYNTAX, "in raise 1 handle\u00a7");
        fault(SYNTAX, "in x \u00a7then");
        fault(SYNTAX, "in 1 : int \u00a7+ 2");
        fault(SYNTAX, "in 1 : int \u00a7= 2");
        fault(SYNTAX, "in [1 : int \u00a7:: nil]");
        fault(SYNTAX, "in ref 1 : int ref \u00a7:= 2");
        fault(SYNTAX, "in x := if true then 1 else 2 : int \u00a7= 3");
        fault(SYNTAX, "in true orelse if true then true else true : bool \u00a7:= 3");
        fault(SYNTAX, "in ref 1 := if true then 1 else 2 : int \u00a7+ 3");
        type("in true : bool andalso 1 = 2 : bool orelse false", "bool");
        type("in 1 + 2 : int : int", "int");
        type("val x = 1; val y = 2 in x + y", "int");
        type("in fn x => x := if true then 1 else 2", "int ref -> unit");
        type("in fn x => x := raise Div", "'a ref -> unit");
        type("in 1 = 2 andalso 3 < 4 orelse raise Div", "bool");
        type("in ([1, 2] : int list : int list)", "int list");
        type("in fn x as y :: z : int list => (x, y, z)", "int list -> int list * int * int list");
        type("datatype ('a) t = A of 'a in A", "'a -> 'a t");
        value("in (1 + 2 * 3 - 4, 1 :: 2 :: [], \"a\" ^ \"b\", 7 - 2 - 1, 17 div 5 mod 2)", "(3, [1, 2], \"ab\", 4, 1)");
        value("in (fn f => f 1 :: [2]) (fn x => x + 1)", "[2, 2]");
    }

    private static void manyThings() {
        type("in " + times("1+", 998) + "~ 1", "int");
        fault(MANY, "in " + times("1+", 999) + "1\u00a7+ 1");
        fault(TOKEN, "in " + times("1+", 999) + "1\u00a7#");
        type("in " + times("(", 40) + "1" + times(")", 40), "int");
        fault(MANY, "in " + times("(", 40) + "\u00a7(1" + times(")", 41));
        fault(MANY, "in " + times("[", 40) + "1 \u00a7:: nil");
        fault(MANY, "in " + times("[", 40) + "1 \u00a7handle");
        fault(MANY, "in " + times("[", 40) + "\u00a7let");
        fault(MANY, "in " + times("[", 40) + "true \u00a7andalso");
        fault(SYNTAX, "in " + times("[", 40) + "1 \u00a7then");
        type("in " + times("1::", 40) + "nil", "int list");
        fault(MANY, "in " + times("1::", 40) + "1\u00a7::nil");
        fault(MANY, "in fn (x : " + times("int->", 38) + "int\u00a7->int) => x");
        fault(MANY, "in fn " + times("(", 39) + "x \u00a7as y");
        type("in (" + times("1=1 andalso ", 39) + "true)", "bool");
        type("in " + times("1=1 andalso ", 40) + "true", "bool");
        type("in (" + times("1,", 29) + "1)", times("int * ", 29) + "int");
        fault(MANY, "in (" + times("1,", 30) + "\u00a71)");
        fault(SYNTAX, "in (" + times("1,", 30) + "\u00a7)");
        fault(MANY, "in fn (" + times("_,", 30) + "\u00a7_) => 1");
        fault(MANY, "in fn (x : " + times("int *", 30) + "\u00a7int) => 1");
        fault(SYNTAX, "in fn (x : " + times("int *", 30) + "\u00a7) => 1");
        type("fun f" + times(" _", 12) + " = 1 in f" + times(" 1", 12), "int");
        fault(MANY, "fun f" + times(" _", 12) + " \u00a7_ = 1 in f");
        StringBuilder cons = new StringBuilder("datatype t = C");
        for (int k = 1; k < 60; k++) cons.append("|C").append(k);
        type(cons + " in 1", "int");
        fault(MANY, cons + " exception \u00a7E in 1");
        fault(SYNTAX, cons + " exception \u00a7in 1");
        StringBuilder types = new StringBuilder();
        for (int k = 0; k < 30; k++) types.append("datatype t").append(k).append(" = C").append(k).append(' ');
        type(types + " in 1", "int");
        fault(MANY, types + "datatype \u00a7u = U in 1");
        String hundred = times("val x = 1 ", 100);
        type(hundred + "in x", "int");
        fault(MANY, hundred + "val \u00a7y = 1 in x");
        fault(MANY, hundred + "fun \u00a7f x = x in x");
        fault(MANY, hundred + "in fn \u00a7y => y");
        String some = times("val x = 1 ", 98);
        type(some + "val (a, b) = let val (p, q) = (1, 2) in (p, q) end in a", "int");
        fault(MANY, some + "val (a, b) = let val (p, q) = (1, 2) in fn \u00a7y => y end in a");
        fault(AGAIN, some + "val (a, \u00a7a) = 1 in a");
        fault(AGAIN, hundred.substring(10) + "val (a, \u00a7a) = 1 in a");
    }

    private static void namesAndSuch() {
        fault(NAME, "in \u00a7x");
        fault(NAME, "in fn \u00a7C x => 1");
        fault(NAME, "datatype t = A of \u00a7u in 1");
        fault(NAME, "datatype 'a t = A of \u00a7'b in 1");
        fault(NAME, "exception E of \u00a7'a in 1");
        fault(NAME, "in (1 : \u00a7foo)");
        fault(AGAIN, "val (x, \u00a7x) = (1, 2) in x");
        fault(AGAIN, "fun f x \u00a7x = 1 in f");
        fault(AGAIN, "in fn (x as \u00a7x) => 1");
        fault(AGAIN, "fun f x = 1 and \u00a7f x = 2 in f");
        fault(AGAIN, "fun \u00a7nil x = 1 in 1");
        fault(AGAIN, "val rec \u00a7true = fn x => x in 1");
        fault(AGAIN, "in fn (\u00a7nil as x) => x");
        fault(AGAIN, "datatype ('a, \u00a7'a) t = A in 1");
        fault(AGAIN, "datatype t = A datatype \u00a7t = B in 1");
        fault(AGAIN, "datatype \u00a7int = A in 1");
        fault(AGAIN, "datatype t = true2 of u and \u00a7t = B in 1");
        fault(AGAIN, "datatype t = A | \u00a7A in 1");
        fault(AGAIN, "exception \u00a7Div in 1");
        fault(AGAIN, "datatype t = A exception \u00a7A in 1");
        fault(AGAIN, "fun f 1 = 2 | \u00a7g 2 = 3 in f");
        fault(AGAIN, "fun f x = x | \u00a7f x y = x in f");
        fault(ARITY, "in (1 : \u00a7list)");
        fault(ARITY, "in (1 : int \u00a7int)");
        fault(ARITY, "in (1 : (int, int) \u00a7list)");
        fault(ARITY, "datatype t = C of int in fn \u00a7C => 1");
        fault(ARITY, "in fn \u00a7nil x => 1");
        fault(ARITY, "datatype t = C of int fun f \u00a7C = 1 | f (C 1) = 2 in 1");
        value("val print = 5 val not = 3 in print + not", "8");
        value("val x = 1 exception x of int in x 2", "x 2");
        type("datatype t = A of u and u = B of t | C in A", "u -> t");
        type("datatype ('a, 'b) t = A of ('b, 'a) t | B of 'a * 'b in A (B (1, true))", "(bool, int) t");
    }

    private static void typing() {
        fault(TYPE, "in 1 \u00a7+ true");
        fault(TYPE, "in (true \u00a7+ 1)");
        fault(TYPE, "in fn x => x \u00a7x");
        fault(TYPE, "in (fn x => x + 1) \u00a7(true)");
        fault(TYPE, "in \u00a7if 1 then 2 else 3");
        fault(TYPE, "in if true then 2 \u00a7else ()");
        fault(TYPE, "in \u00a7while 1 do ()");
        fault(TYPE, "in case 1 of \u00a7true => 1");
        fault(TYPE, "in case 1 of 2 => 3 | _ => \u00a7()");
        fault(TYPE, "in 1 handle \u00a72 => 3");
        fault(TYPE, "in 1 handle _ => \u00a7()");
        fault(TYPE, "in fn 1 => 2 | \u00a7true => 3");
        fault(TYPE, "in fn 1 => 2 | 2 => \u00a7true");
        fault(TYPE, "in \u00a7raise 3");
        fault(TYPE, "in (1 \u00a7: bool)");
        fault(TYPE, "in [1, \u00a7true]");
        fault(TYPE, "in fn [1, \u00a7true] => 1");
        fault(TYPE, "val 1 \u00a7= true in 1");
        fault(TYPE, "fun f 1 = 2 | \u00a7f true = 3 in f");
        fault(TYPE, "fun f x : int = 1 | \u00a7f y : bool = 2 in f");
        fault(TYPE, "fun f x : int \u00a7= true in f");
        fault(TYPE, "val rec f \u00a7= fn x => f in f");
        fault(TYPE, "datatype t = C of int in fn \u00a7C true => 1");
        fault(TYPE, "in fn 1 \u00a7:: true => 1");
        fault(TYPE, "in 1 \u00a7:: [true]");
        fault(TYPE, "in ref 1 \u00a7:= true");
        fault(TYPE, "in \"a\" \u00a7= \"b\"");
        fault(TYPE, "in fn x => x \u00a7+ (x : bool)");
        fault(TYPE, "val f = (fn x => x) (fn y => y) in (f 1, f \u00a7true)");
        fault(TYPE, "val f = ref in (f 1, f \u00a7true)");
        fault(TYPE, "in fn f => (f 1, f \u00a7true)");
        fault(TYPE, "in let fun id (x : 'a) : 'a = x in (id 1, id \u00a7true) end");
        fault(TYPE, "val r = ref [] in (r := [1]; r \u00a7:= [true])");
        type("fun id (x : 'a) : 'a = x in (id 1, id true)", "int * bool");
        type("val (f, g) = (fn x => x, [fn y => y]) in (f 1, f true, g)", "int * bool * ('a -> 'a) list");
        type("datatype 'a o = N | S of 'a val x = S (fn y => y) val z = [] :: [] in (x, z, x)", "('a -> 'a) o * 'b list list * ('c -> 'c) o");
        type("fun f x = g x and g x = x in (f 1, g true)", "int * bool");
        type("in fn x => let val y = (x, fn z => z) in (y, y) end", "'a -> ('a * ('b -> 'b)) * ('a * ('c -> 'c))");
        type("in fn (x, y) => fn z => (x z, y : int)", "('a -> 'b) * int -> 'a -> 'b * int");
        type("in fn f => fn x => [f (f x)]", "('a -> 'a) -> 'a -> 'a list");
        type("in fn (a : ('x -> 'y) list, b : ('x * 'y) ref) => !b", "('a -> 'b) list * ('a * 'b) ref -> 'a * 'b");
        type("in while true do 1", "unit");
        type("in raise Div", "'a");
        String pairs = "val a = fn x => x val b = (a, a, a, a, a) val c = (b, b, b, b, b) ";
        type(pairs + "in 1", "int");
        fault(MANY, pairs + "val \u00a7d = (c, b, b) in 1");
        type("val a = 1 val b = (a, a, a, a, a, a) val c = (b, b, b, b, b, b) val d = (c, c, c, c) in 1", "int");
        StringBuilder variables = new StringBuilder("datatype (");
        for (int k = 0; k < 98; k++) variables.append(k > 0 ? ", " : "").append("'a").append(k);
        type(variables + ") t = A in 1", "int");
        fault(MANY, variables + ") t = A | \u00a7B of 'a1 in 1");
    }

    private static void values() {
        value("in (7 div ~2, 7 mod ~2, ~7 div 2, ~7 mod 2, ~1073741824 div ~1, 1073741823 + 1, 1073741823 * 1073741823)",
            "(~4, ~1, ~4, 1, ~1073741824, ~1073741824, 1)");
        value("in (true, false, (), [], nil, fn x => x, print, ref)", "(true, false, (), [], [], fn, fn, fn)");
        value("datatype 'a o = N | S of 'a in [S (S ~1), N, S N]", "[S (S ~1), N, S N]");
        value("datatype 'a o = N | S of 'a in (S, S (1, 2), S [N], S (ref 1), ref (S 1), ref (ref 2), S \"a\", S (fn x => x))",
            "(fn, S (1, 2), S [N], S (ref 1), ref (S 1), ref (ref 2), S \"a\", S fn)");
        value("in (sub (\"abc\", 1), sub (\"abc\", 3) handle Subscript => 0, chr 65, chr 0, size (str ~12), not true)",
            "(98, 0, \"A\", \"\\000\", 3, false)");
        raised("in (chr ~1; 1)", "Chr");
        raised("exception E of int * string in raise E (1, \"a\")", "E (1, \"a\")");
        value("in case [1, 2, 3] of [x] => 0 | [x, y] => 1 | x :: (z as y :: _) => x + y", "3");
        raised("in raise raise Div", "Div");
        value("in (1; true; \"a\")", "\"a\"");
        value("val r = ref 1 in [(r := !r + 1; !r), (r := 5; !r), !r]", "[2, 5, 5]");
        value("datatype t = T of t ref | N in let val r = ref N in r := T r; r end",
            times("ref (T (", 9) + "ref (T #)" + times("))", 9));
        value("datatype t = A | B of t list in B [B [B [B [B [B [B [B [B [B [B [A]]]]]]]]]]]",
            times("B [", 10) + "#" + times("]", 10));
    }

    public static void main(String[] args) {
        tokens();
        grammar();
        manyThings();
        namesAndSuch();
        typing();
        values();
        finish("this and that");
    }
}
