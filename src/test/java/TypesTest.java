/** Part C of the document: how types are found, where they can't be made equal, and what becomes general. */
public final class TypesTest extends Houses {
    private static final String AHEAD = "datatype 'a o = N | S of 'a datatype ('a, 'b) e = L of 'a | R of 'b exception E of int ";

    /** "application: the function's type and one from the argument's to a new one (at the argument's first token)". */
    private static void applications() {
        type("in (fn x => x) 1", "int");
        type("in fn f => f 1", "(int -> 'a) -> 'a");
        type("in fn f => fn x => f x x", "('a -> 'a -> 'b) -> 'a -> 'b");
        type("in fn f => fn g => fn x => f (g x)", "('a -> 'b) -> ('c -> 'a) -> 'c -> 'b");
        fault(TYPE, "in 1 \u00a72");
        fault(TYPE, "in print \u00a71");
        fault(TYPE, "in print \u00a7(1)");
        fault(TYPE, "in print \u00a7((1))");
        fault(TYPE, "in print \u00a7[]");
        fault(TYPE, "in print \u00a7let in 1 end");
        fault(TYPE, "in not \u00a7\"a\"");
        fault(TYPE, "in ~ \u00a7true");
        fault(TYPE, "in ! \u00a71");
        fault(TYPE, "in sub \u00a7(1, \"a\")");
        fault(TYPE, "in sub \u00a7(\"a\", 1, 2)");
        fault(TYPE, "in size \u00a7size");
        fault(TYPE, "in many \u00a71");
        fault(TYPE, "in print \"a\" \u00a71");
        fault(TYPE, "in (fn x => fn y => x + 1) 1 2 \u00a73");
        fault(TYPE, AHEAD + "in E \u00a7true");
        fault(TYPE, AHEAD + "in N \u00a71");
        fault(TYPE, "in fn x => x \u00a7x");
        fault(TYPE, "in fn x => x 1 \u00a7x");
        fault(TYPE, "in fn x => x \u00a7(fn y => x)");
        fault(TYPE, "in fn f => (f 1, f \u00a7true)");
        // Parts first: the function, then the argument.
        fault(NAME, "in 1 \u00a7x");
        fault(TYPE, "in 1 \u00a72 x");
        fault(TYPE, "in 1 (2 \u00a73)");
    }

    /** "operators likewise as if applied to a pair, each side by itself, the left first (at the operator)". */
    private static void operators() {
        for (String sign : "+ - * div mod".split(" ")) {
            type("in 1 " + sign + " 2", "int");
            type("in fn (x, y) => x " + sign + " y", "int * int -> int");
            fault(TYPE, "in true \u00a7" + sign + " 2");
            fault(TYPE, "in 1 \u00a7" + sign + " \"a\"");
            fault(TYPE, "in fn x => (x \u00a7" + sign + " (x : bool))");
        }
        for (String sign : "= <> < > <= >=".split(" ")) {
            type("in 1 " + sign + " 2", "bool");
            type("in fn (x, y) => x " + sign + " y", "int * int -> bool");
            fault(TYPE, "in true \u00a7" + sign + " true");
            fault(TYPE, "in \"a\" \u00a7" + sign + " \"a\"");
            fault(TYPE, "in 1 \u00a7" + sign + " \"a\"");
            fault(TYPE, "in () \u00a7" + sign + " ()");
        }
        type("in fn (x, y) => x ^ y", "string * string -> string");
        fault(TYPE, "in 1 \u00a7^ \"a\"");
        fault(TYPE, "in \"a\" \u00a7^ 1");
        for (String sign : "andalso orelse".split(" ")) {
            type("in fn (x, y) => x " + sign + " y", "bool * bool -> bool");
            fault(TYPE, "in 1 \u00a7" + sign + " true");
            fault(TYPE, "in true \u00a7" + sign + " 1");
            fault(NAME, "in 1 " + sign + " \u00a7x");
            fault(TYPE, "in true " + sign + " 1 \u00a7+ true");
        }
        type("in fn (x, y) => x := y", "'a ref * 'a -> unit");
        fault(TYPE, "in 1 \u00a7:= 1");
        fault(TYPE, "in ref 1 \u00a7:= true");
        fault(TYPE, "in fn x => x \u00a7:= x");
        fault(NAME, "in 1 := \u00a7x");
        type("in fn (x, y) => x :: y", "'a * 'a list -> 'a list");
        fault(TYPE, "in 1 \u00a7:: 2");
        fault(TYPE, "in 1 \u00a7:: [true]");
        fault(TYPE, "in fn x => x \u00a7:: x");
        fault(TYPE, "in [1] \u00a7:: [2]");
        fault(TYPE, "in 1 \u00a7:: true :: nil");
        fault(NAME, "in 1 + true * \u00a7x");
        fault(TYPE, "in 1 + true \u00a7* 2");
        fault(TYPE, "in true \u00a7+ 1 + x");
        fault(NAME, "in 1 + (true, \u00a7x)");
    }

    /** "if: the condition bool (at if), then both branches (at else); while: bool (at while)". */
    private static void branches() {
        type("in fn (x, y, z) => if x then y else z", "bool * 'a * 'a -> 'a");
        fault(TYPE, "in \u00a7if 1 then 2 else 3");
        fault(TYPE, "in if true then 1 \u00a7else ()");
        fault(TYPE, "in fn x => if true then x \u00a7else [x]");
        fault(TYPE, "in (1, \u00a7if () then 2 else 3)");
        // As soon as both are known: ahead of what comes behind.
        fault(TYPE, "in \u00a7if 1 then x else y");
        fault(NAME, "in if \u00a7x then 1 else true");
        fault(NAME, "in if true then \u00a7x else y");
        fault(TYPE, "in if true then 1 \u00a7+ true else y");
        fault(NAME, "in if true then 1 else (true, \u00a7x)");
        fault(TYPE, "in if true then if true then 1 \u00a7else true else ()");
        fault(TYPE, "in if true then if true then 1 else 2 \u00a7else true");
        type("in fn (x, y) => while x do y", "bool * 'a -> unit");
        fault(TYPE, "in \u00a7while 1 do 2");
        fault(TYPE, "in \u00a7while 1 do x");
        fault(NAME, "in while true do \u00a7x");
        fault(TYPE, "in 1 \u00a7+ (while true do 1)");
    }

    /** "case: each PAT with EXP (at the PAT's first token), each rule's EXP with the first one's .., rule by rule; handle ..; fn ..". */
    private static void matches() {
        type("in fn x => case x of 1 => true | _ => false", "int -> bool");
        type("in case (1, true) of (x, y) => (y, x)", "bool * int");
        fault(TYPE, "in case 1 of \u00a7true => 1");
        fault(TYPE, "in case 1 of \u00a7(x, y) => 1");
        fault(TYPE, "in case 1 of 1 => 1 | \u00a7() => 2");
        fault(TYPE, "in case 1 of 1 => 1 | _ => \u00a7true");
        fault(TYPE, "in case 1 of 1 => 1 | 2 => \u00a7(true) | () => 2");
        fault(TYPE, "in fn x => case x of 1 => 1 | \u00a7true => 2");
        fault(TYPE, "in fn x => case [x] of x => x \u00a7:: 1 | _ => 2");
        fault(TYPE, "in case 1 of \u00a7true => x");
        fault(NAME, "in case 1 of (true, \u00a7C x) => 1");
        fault(NAME, "in case 1 of 1 => \u00a7x | true => 2");
        fault(NAME, "in case 1 of 1 => 1 | 2 => (true, \u00a7x)");
        fault(TYPE, "in case 1 of 1 => 1 | 2 => \u00a7true | x => y");
        fault(TYPE, "in case 1 of \u00a7x :: y => 1");
        fault(TYPE, "in case 1 of \u00a7x as true => 1");
        fault(TYPE, "in case 1 of \u00a7(x : bool) => 1");
        fault(TYPE, "in case 1 of \u00a7x : bool => 1");
        type("in fn x => 1 handle Div => x", "int -> int");
        type("in raise Div handle E => E", "'a");
        fault(TYPE, "in 1 handle \u00a71 => 2");
        fault(TYPE, "in 1 handle Div => \u00a7true");
        fault(TYPE, "in 1 handle Div => 2 | \u00a7[] => 3");
        fault(TYPE, "in 1 handle Div => 2 | _ => \u00a7[]");
        fault(TYPE, "in 1 handle \u00a71 => x");
        fault(NAME, "in 1 handle Div => (2, \u00a7x)");
        fault(TYPE, "in (1, true) handle x => \u00a7(2, x)");
        type("in fn 1 => 2 | x => x", "int -> int");
        type("in fn (x, 1) => [x] | (y, _) => [y, true]", "bool * int -> bool list");
        fault(TYPE, "in fn 1 => 2 | \u00a7true => 3");
        fault(TYPE, "in fn 1 => 2 | 2 => \u00a7true");
        fault(TYPE, "in fn 1 => 2 | 2 => 3 | \u00a7() => 4");
        fault(TYPE, "in fn 1 => 2 | 2 => 3 | 3 => \u00a7()");
        fault(TYPE, "in fn 1 => 2 | \u00a7true => x");
        fault(NAME, "in fn 1 => \u00a7x | true => 2");
        fault(TYPE, "in fn x => x + 1 | \u00a7[y] => y");
        fault(TYPE, "in fn x => fn 1 => x | 2 => \u00a7[x]");
    }

    /** "raise: exn (at raise); : TYPE (at :); list: each further element with the first one (at its first token)". */
    private static void others() {
        type("in fn x => raise x", "exn -> 'a");
        fault(TYPE, "in \u00a7raise 1");
        fault(TYPE, "in 1 + (\u00a7raise true)");
        fault(TYPE, AHEAD + "in \u00a7raise E");
        type("in (fn x => x : int)", "int -> int");
        type("in ((fn x => x) : int -> int)", "int -> int");
        fault(TYPE, "in (1 \u00a7: bool)");
        fault(TYPE, "in (1 : int \u00a7: bool)");
        fault(TYPE, "in (fn x => x : int) \u00a7: int");
        fault(TYPE, "in fn (x : bool) => x \u00a7+ 1");
        fault(TYPE, "in fn 1 \u00a7: bool => 1");
        fault(TYPE, "in fn (x :: y \u00a7: int) => 1");
        fault(NAME, "in (1 : \u00a7x)");
        fault(NAME, "in (\u00a7x : bool)");
        type("in [nil, [1], nil]", "int list list");
        fault(TYPE, "in [1, \u00a7true]");
        fault(TYPE, "in [1, 2, \u00a7[3], true]");
        fault(TYPE, "in [1, \u00a7(true)]");
        fault(TYPE, "in [1, \u00a7if true then true else false]");
        fault(TYPE, "in [1, \u00a7true, x]");
        fault(NAME, "in [1, \u00a7x, true]");
        fault(TYPE, "in fn x => [x, \u00a7[x]]");
        type("in fn [1, x] => x", "int list -> int");
        fault(TYPE, "in fn [1, \u00a7true] => 1");
        fault(TYPE, "in fn [1, 2, \u00a7()] => 1");
        fault(TYPE, "in fn [1, \u00a7true, C x] => 1");
        fault(TYPE, "in fn [[], \u00a7x as 1] => 1");
        // "In an expression sequence all but the last may be of any type."
        type("in (1; true; \"a\"; ())", "unit");
        type("in let in 1; true; \"a\" end", "string");
        fault(TYPE, "in (1 \u00a7+ true; 2)");
    }

    /** "val: PAT and EXP (at =); fun: .. (at the NAME, the NAME, at =); val rec: the NAME and its fn (at =)". */
    private static void declarations() {
        type("val (x, [y]) = (1, [true]) in (y, x)", "bool * int");
        fault(TYPE, "val 1 \u00a7= true in 1");
        fault(TYPE, "val (x, y) \u00a7= 1 in 1");
        fault(TYPE, "val x : int \u00a7= true in 1");
        fault(TYPE, "val x :: y \u00a7= 1 in 1");
        fault(NAME, "val 1 = \u00a7x in 1");
        fault(NAME, "val \u00a7C x = 1 + true in 1");
        fault(TYPE, "in let val () \u00a7= 1 in 1 end");
        type("val rec f = fn 0 => 0 | n => f (n - 1) in f", "int -> int");
        fault(TYPE, "val rec f \u00a7= fn x => f in 1");
        fault(TYPE, "val rec f \u00a7= fn x => f + 1 in 1");
        fault(TYPE, "val rec f \u00a7= fn x => f :: nil in f 1");
        fault(TYPE, "val rec f = fn x => (f 1, f \u00a7true) in 1");
        type("fun f x y = x in f", "'a -> 'b -> 'a");
        type("fun f 0 y = y | f x y = f (x - 1) y in f", "int -> 'a -> 'a");
        fault(TYPE, "fun f 1 = 1 | \u00a7f true = 1 in 1");
        fault(TYPE, "fun f x 1 = 1 | \u00a7f x () = 1 in 1");
        fault(TYPE, "fun f x : int = 1 | \u00a7f x : bool = true in 1");
        fault(TYPE, "fun f x : int \u00a7= true in 1");
        fault(TYPE, "fun f x = 1 | f y \u00a7= true in 1");
        fault(TYPE, "fun f x = 1 | \u00a7f y : bool = true in 1");
        fault(TYPE, "fun f x \u00a7= f in 1");
        fault(TYPE, "fun f x \u00a7= f x x in 1");
        fault(TYPE, "fun f x = g x + 1 and g y \u00a7= true in 1");
        fault(TYPE, "fun f x = g x 2 3 and g y z \u00a7= 1 in 1");
        fault(TYPE, "fun f x = x 1 and g (y : int) = f \u00a7y in 1");
        // Each ATPAT as soon as it is known, then the TYPE, then the EXP.
        fault(TYPE, "fun f 1 x = 1 | \u00a7f true (y, y) = 1 in 1");
        fault(AGAIN, "fun f 1 2 = 1 | f x \u00a7x = true in 1");
        fault(TYPE, "fun f 1 = 1 | \u00a7f true : x = y in 1");
        fault(NAME, "fun f 1 = 1 | f 1 : \u00a7x = y in 1");
        fault(TYPE, "fun f x : int = 1 | \u00a7f x : bool = y in 1");
        fault(NAME, "fun f x : int = (true, \u00a7y) in 1");
        fault(NAME, "fun f 1 = \u00a7y | f true = 2 in 1");
    }

    /** "a pattern's constructor with its argument (at the constructor), :: of patterns as of EXPs". */
    private static void patterns() {
        type(AHEAD + "in fn S (x, 1) => x | N => true", "(bool * int) o -> bool");
        type(AHEAD + "in fn (L x, R y) => (x, y)", "('a, 'b) e * ('c, 'd) e -> 'a * 'd");
        fault(TYPE, AHEAD + "in fn \u00a7E true => 1");
        fault(TYPE, AHEAD + "in fn (1, \u00a7E (x, y)) => 1");
        fault(TYPE, AHEAD + "in fn S (\u00a7E ()) => 1");
        fault(AGAIN, AHEAD + "in fn E (x, \u00a7x) => 1");
        fault(NAME, AHEAD + "in fn E (true, \u00a7Z 1) => 1");
        fault(TYPE, "in fn 1 \u00a7:: true => 1");
        fault(TYPE, "in fn 1 \u00a7:: 2 => 1");
        fault(TYPE, "in fn 1 \u00a7:: [true] => 1");
        fault(TYPE, "in fn 1 \u00a7:: true :: nil => 1");
        fault(TYPE, "in fn 1 :: () \u00a7:: 2 => 1");
        fault(TYPE, "in fn [] \u00a7:: 1 => 1");
        fault(AGAIN, "in fn 1 :: (true, x, \u00a7x) => 1");
        type("in fn x as (y :: z) => (x, y, z)", "'a list -> 'a list * 'a * 'a list");
        type("in fn (x as 1, y as [x2]) => (x, y, x2)", "int * 'a list -> int * 'a list * 'a");
        type("in fn ((), _, ~1, true, nil, Div) => 1", "unit * 'a * int * bool * 'b list * exn -> int");
    }

    /** "5 TYPE there, when they can't be, or one would be within itself". */
    private static void withinItself() {
        fault(TYPE, "in fn x => x \u00a7x");
        fault(TYPE, "in fn x => (x, x \u00a7:: x)");
        fault(TYPE, "in fn x => fn y => [x, y, \u00a7(x, y)]");
        fault(TYPE, "in fn (f, g) => (f g, g \u00a7f)");
        fault(TYPE, "in fn (x, y) => (x := y, y \u00a7:= x)");
        fault(TYPE, "fun f x \u00a7= (f, x) in 1");
        fault(TYPE, "fun f x = g and g y \u00a7= f in 1");
        fault(TYPE, AHEAD + "fun f x \u00a7= S f in 1");
        fault(TYPE, "in fn x => [(1, x), \u00a7(1, [x])]");
        fault(TYPE, "in fn x => [(x, 1), \u00a7([x], 1)]");
        fault(TYPE, "in fn x => [(1, (x, 2)), \u00a7(1, (ref x, 2))]");
        fault(TYPE, "in fn x => fn y => [(1, x, y), \u00a7(1, [y], [x])]");
        fault(TYPE, "in fn x => case (x, [x]) of (a, b) => [a, \u00a7b]");
        fault(TYPE, "in fn x => case (1, x, ref (x, 2)) of (_, a, b) => (b \u00a7:= (b, 3))");
        fault(TYPE, "in fn x => case [(x, [x], [[x]])] of [(a, b, c)] => (a \u00a7:: c)");
        fault(TYPE, "in fn x => case x of y :: z => y | w => \u00a7w");
        fault(TYPE, "in fn (x, y, z) => ([x, [y]], [y, [z]], [z, \u00a7[x]])");
        good("datatype t = T of t -> t in fn T x => x (T x)");
        good("datatype 'a t = T of 'a t list | V of 'a in fn x => T [T [], V x]");
    }

    /** "TYPE variables in a : TYPE stand for the same new type wherever they are in one outermost declaration (or the last EXP)". */
    private static void typeVariables() {
        type("in fn (x : 'a, y : 'a) => 1", "'a * 'a -> int");
        type("in (fn (x : 'a) => x + 1, fn (y : 'a) => y)", "(int -> int) * (int -> int)");
        type("val f = fn (x : 'a) => x val g = fn (x : 'a) => x + 1 in (f, g)", "('a -> 'a) * (int -> int)");
        type("val r = ref (nil : 'a list) val g = fn (x : 'a) => x + 1 in r", "'a list ref");
        type("val r = ref (nil : 'a list) val rec g = fn (x : 'a) => x + 1 in r", "'a list ref");
        type("val r = ref (nil : 'a list) fun g (x : 'a) = x + 1 in r", "'a list ref");
        type("val r = ref (nil : 'a list); in (r, fn (x : 'a) => x + 1)", "'a list ref * (int -> int)");
        type("val x = let val r = ref (nil : 'a list) fun f (x : 'a) = x + 1 in r end in x", "int list ref");
        type("val x = let val r = ref (nil : 'a list) val rec f = fn (x : 'a) => x + 1 in r end in x", "int list ref");
        fault(TYPE, "val rec f = fn x => let fun g (y : 'a) = y in (g 1, g \u00a7true) end in f");
        fault(TYPE, "fun f x = let val rec g = fn (y : 'a) => y in (g 1, g \u00a7true) end in f");
        type("fun f (x : 'a) = x and g (y : 'a) = y + 1 in f", "int -> int");
        type("fun f (x : 'a) : 'b = x in f", "'a -> 'a");
        type("fun f (x : 'a) = let fun g (y : 'a) = y in g x end in (f 1, f true)", "int * bool");
        fault(TYPE, "fun f (x : 'a) = let fun g (y : 'a) = y in g 1 end in f \u00a7true");
        // "and become general with that alone".
        fault(TYPE, "val x = let fun g (y : 'a) = y in (g 1, g \u00a7true) end in 1");
        fault(TYPE, "in let val g = fn (y : 'a) => y in (g 1, g \u00a7true) end");
        type("in let val g = fn y => y in (g 1, g true) end", "int * bool");
        type("val x = let fun g (y : 'a) = y in g end in (x 1)", "int");
        fault(TYPE, "val x = let fun g (y : 'a) = y in g end in (x 1, x \u00a7true)");
        type("fun h (z : int) = let fun g (y : 'a) = y in g end in (h 1 1, h 1 true)", "int * bool");
        type("val (x : 'a list) = nil in (1 :: x, true :: x)", "int list * bool list");
        type("val x = (nil : 'a list) in (1 :: x, true :: x)", "int list * bool list");
        type("val x : 'a * 'b = raise Div in x", "'a * 'b");
        type("datatype 'a t = T of 'a val x = fn (y : 'a) => T y in (x 1, x true)", "int t * bool t");
        type("val x = fn (y : 'a) => y datatype 'a t = T of 'a exception E of int val z = fn (y : 'a) => [y] in (x 1, z ())", "int * unit list");
        type("fun f x = (x : 'a, fn (y : 'b) => (y : 'a)) in f", "'a -> 'a * ('a -> 'a)");
    }

    /** "What val, val rec and fun declare becomes general in all type variables that are not in a type of what can be seen around". */
    private static void general() {
        type("val f = fn x => x in (f 1, f true, f)", "int * bool * ('a -> 'a)");
        type("val rec f = fn x => x in (f 1, f true)", "int * bool");
        type("fun f x = x in (f 1, f true)", "int * bool");
        type("fun f x = x and g y = f y in (f 1, f true, g 1, g ())", "int * bool * int * unit");
        fault(TYPE, "fun f x = x and g y = (f 1, f \u00a7true) in 1");
        fault(TYPE, "fun f x = (f 1; f \u00a7true; x) in 1");
        type("in let fun f x = x in (f 1, f true) end", "int * bool");
        fault(TYPE, "in fn x => let val y = x in (y + 1, y \u00a7^ \"a\") end");
        type("in fn x => let val y = fn z => (x, z) in (y 1, y true) end", "'a -> ('a * int) * ('a * bool)");
        fault(TYPE, "in fn x => let fun f y = [x, y] in (f 1, f \u00a7true) end");
        type("in fn x => let fun f y = fn z => (x, y, z) val g = f 1 in (g 2, f true ()) end", "'a -> ('a * int * int) * ('a * bool * unit)");
        fault(TYPE, "in fn x => let fun f y = fn z => (x, y, z) val g = f 1 in (g 2, g \u00a7true) end");
        type("val (x, f) = (1, fn y => y) in (f x, f true)", "int * bool");
        type("val x :: y = [fn z => z] in (x 1, x true)", "int * bool");
        type("val f = 1 val rec f = fn x => x in (f 1, f true)", "int * bool");
        type("val f = 1 fun f x = x in (f 1, f true)", "int * bool");
        type("val f = 1 val f = fn x => x in (f 1, f true)", "int * bool");
        type("fun f x = x val rec g = fn f => f val f = g in (f 1, f true)", "int * bool");
        type("val x as (y, z) = (nil, nil) in (1 :: y, true :: y, x, x)", "int list * bool list * ('a list * 'b list) * ('c list * 'd list)");
        fault(TYPE, "val f = (fn x => x) (fn x => x) in (f 1, f \u00a7true)");
        type("val f = (fn x => x) (fn x => x) in f", "'a -> 'a");
        fault(TYPE, "val r = ref nil in (r := [1]; r \u00a7:= [true])");
        type("val r = ref nil val x = r := [1] in r", "int list ref");
        fault(TYPE, "in case fn x => x of f => (f 1, f \u00a7true)");
        fault(TYPE, "in (fn f => (f 1, f \u00a7true)) (fn x => x)");
        // What a type that can be seen around comes to have in it is not general, however deep it stands there.
        fault(TYPE, "in fn x => let fun f z = [x, [z]] in (f 1, f \u00a7true) end");
        fault(TYPE, "in fn x => let val f = fn z => (x := (1, [z]); z) in (f 1, f \u00a7true) end");
        type("in fn x => let fun f z = [x, [z]] in f end", "'a list -> 'a -> 'a list list");
        fault(TYPE, "in fn x => let val rec f = fn z => [x, z] in (f 1, f \u00a7true) end");
        type("in fn x => let val rec f = fn z => (x, z) in (f 1, f true) end", "'a -> ('a * int) * ('a * bool)");
        // What is not VALUED stays so for all that comes behind it.
        fault(TYPE, "val r = ref nil fun f x = (r := [x]; x) in (f 1, f \u00a7true)");
        fault(TYPE, "val r = ref nil val s = r in (s := [1]; s \u00a7:= [true])");
        fault(TYPE, "val r = ref nil val f = fn x => (r := [x]; x) val g = fn x => f x in (g 1, g \u00a7true)");
        fault(TYPE, "in let val r = ref nil fun f x = (r := [x]; x) in (f 1, f \u00a7true) end");
        type("val r = ref nil fun f x = (r := [x]; x) in f", "'a -> 'a");
        // Constructors and functions known ahead have new types each time.
        type(AHEAD + "in (S 1, S true, N, N)", "int o * bool o * 'a o * 'b o");
        type(AHEAD + "in (L 1, R 1)", "(int, 'a) e * ('b, int) e");
        type("in (nil, nil, ref 1, ref true, !(ref ()))", "'a list * 'b list * int ref * bool ref * unit");
        type("in fn x => let val y = !x in (y, x) end", "'a ref -> 'a * 'a ref");
        fault(TYPE, "in fn x => let val y = !x in (y + 1, y \u00a7^ \"a\") end");
        type("val a = fn x => x val b = a val c = (b, [b]) in (b 1, b true, c)", "int * bool * (('a -> 'a) * ('b -> 'b) list)");
    }

    public static void main(String[] args) {
        applications();
        operators();
        branches();
        matches();
        others();
        declarations();
        patterns();
        withinItself();
        typeVariables();
        general();
        finish("types");
    }
}
