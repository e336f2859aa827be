/** "At most: ..": each limit of a program just kept, and just passed, with the place of 7 MANY. */
public final class LimitsTest extends Houses {
    /** What opens one more, the token by which marked, well typed wherever an int stands. */
    private static final String[] OPENERS = {
        "\u00a7(1)", "\u00a7[1]", "\u00a7let in 1 end", "\u00a7fn x => 1", "\u00a7case 1 of _ => 1",
        "\u00a7if true then 1 else 2", "\u00a7while false do 1", "\u00a7raise Div", "1 \u00a7handle _ => 1",
        "1 \u00a7:: nil", "true \u00a7andalso true", "true \u00a7orelse true", "\u00a7()", "\u00a7[]"};
    /** Patterns that open one more. */
    private static final String[] PATTERNS = {"\u00a7(x)", "\u00a7(x, y)", "\u00a7()", "\u00a7[x]", "\u00a7[]", "x \u00a7as y", "x \u00a7:: y"};
    /** Types that open one more. */
    private static final String[] TYPES = {"\u00a7(int)", "int \u00a7-> int", "\u00a7('a, 'b) p"};

    private static String plain(String marked) {
        return marked.replace("\u00a7", "");
    }

    private static String inside(int opened, String what) {
        return times("(", opened) + what + times(")", opened);
    }

    /** "40 open in one another (( [ let, what begins with fn case if while raise, and handle, .. as .. ::, ->, andalso, orelse ..)". */
    private static void opened() {
        for (String opener : OPENERS) {
            good("in " + inside(39, plain(opener)));
            fault(MANY, "in " + inside(40, opener));
            good("in " + inside(38, "(" + plain(opener) + "; " + plain(opener) + "; " + plain(opener) + ")"));
            good("in " + times("[", 39) + plain(opener) + times("]", 39));
            fault(MANY, "in " + times("[", 40) + opener + times("]", 40));
        }
        for (String pattern : PATTERNS) {
            good("in fn " + inside(38, plain(pattern)) + " => 1");
            fault(MANY, "in fn " + inside(39, pattern) + " => 1");
            good("val " + inside(39, plain(pattern)) + " = raise Div in 1");
            fault(MANY, "val " + inside(40, pattern) + " = raise Div in 1");
            good("fun f " + inside(39, plain(pattern)) + " = 1 in 1");
            fault(MANY, "fun f " + inside(40, pattern) + " = 1 in 1");
        }
        for (String type : TYPES) {
            String ahead = "datatype ('a, 'b) p = P ";
            good(ahead + "exception E of " + inside(39, plain(type)).replace("'a, 'b", "int, int") + " in 1");
            fault(MANY, ahead + "exception E of " + inside(40, type).replace("'a, 'b", "int, int") + " in 1");
            good(ahead + "in ((raise Div) : " + inside(38, plain(type)) + ")");
            fault(MANY, ahead + "in ((raise Div) : " + inside(39, type) + ")");
            good(ahead + "in fn (x : " + inside(37, plain(type)) + ") => 1");
            fault(MANY, ahead + "in fn (x : " + inside(38, type) + ") => 1");
            good(ahead + "fun f x : " + inside(39, plain(type)) + " = raise Div in 1");
            fault(MANY, ahead + "fun f x : " + inside(40, type) + " = raise Div in 1");
        }
    }

    /** All kinds of what opens, one in another. */
    private static void openedInOneAnother() {
        type("in " + times("fn x => ", 40) + "1", functions(40));
        fault(MANY, "in " + times("fn x => ", 40) + "\u00a7fn x => 1");
        good("in " + times("case 1 of _ => ", 40) + "1");
        fault(MANY, "in " + times("case 1 of _ => ", 40) + "\u00a7case 1 of _ => 1");
        good("in " + times("case ", 40) + "1" + times(" of _ => 1", 40));
        fault(MANY, "in " + times("case ", 40) + "\u00a7case 1" + times(" of _ => 1", 41));
        good("in " + times("if true then ", 40) + "1" + times(" else 2", 40));
        fault(MANY, "in " + times("if true then ", 40) + "\u00a7if true then 1" + times(" else 2", 41));
        good("in " + times("if true then 1 else ", 40) + "1");
        fault(MANY, "in " + times("if true then 1 else ", 40) + "\u00a7if true then 1 else 1");
        good("in " + times("if ", 40) + "true" + times(" then true else true", 40));
        good("in " + times("while true do ", 40) + "1");
        fault(MANY, "in " + times("while true do ", 40) + "\u00a7while true do 1");
        good("in " + times("raise ", 40) + "Div");
        fault(MANY, "in " + times("raise ", 40) + "\u00a7raise Div");
        good("in " + times("1 handle _ => ", 40) + "1");
        fault(MANY, "in " + times("1 handle _ => ", 40) + "1 \u00a7handle _ => 1");
        good("in " + times("let in ", 40) + "1" + times(" end", 40));
        fault(MANY, "in " + times("let in ", 40) + "\u00a7let in 1" + times(" end", 41));
        good("in " + times("let val x = ", 40) + "1" + times(" in 1 end", 40));
        fault(MANY, "in " + times("let val x = ", 40) + "\u00a7let val x = 1" + times(" in 1 end", 41));
        good("in " + times("1 :: ", 40) + "nil");
        fault(MANY, "in " + times("1 :: ", 40) + "1 \u00a7:: nil");
        good("in " + times("true andalso ", 40) + "true");
        fault(MANY, "in " + times("true andalso ", 40) + "true \u00a7andalso true");
        good("in " + times("true orelse ", 40) + "true");
        fault(MANY, "in " + times("true orelse ", 40) + "true \u00a7orelse true");
        good("in " + times("true orelse true andalso ", 20) + "true");
        fault(MANY, "in " + times("true orelse ", 40) + "true \u00a7andalso true");
        good("in fn " + times("1 :: ", 39) + "x => 1");
        fault(MANY, "in fn " + times("1 :: ", 39) + "1 \u00a7:: x => 1");
        StringBuilder as = new StringBuilder();
        for (int k = 0; k < 39; k++) as.append("x").append(k).append(" as ");
        good("in fn " + as + "y => 1");
        fault(MANY, "in fn " + as + "y \u00a7as z => 1");
        good("exception E of " + times("int -> ", 40) + "int in 1");
        fault(MANY, "exception E of " + times("int -> ", 40) + "int \u00a7-> int in 1");
        good("exception E of " + times("int * (int -> ", 20) + "int" + times(")", 20) + " in 1");
        fault(MANY, "exception E of " + times("int * (int -> ", 20) + "int * \u00a7(int -> int" + times(")", 21) + " in 1");
        good("in " + times("(fn x => [let val y = case 1 of z => if true then raise Div else 2 in y end]; ", 7) + "1" + times(")", 7));
    }

    private static String functions(int n) {
        StringBuilder s = new StringBuilder();
        for (int k = 0; k < n; k++) s.append("'").append((char) ('a' + k % 26)).append(k >= 26 ? "" + k / 26 : "").append(" -> ");
        return s + "int";
    }

    /** "till they are over, as till its PAT is, ::, ->, andalso, orelse till their right side is". */
    private static void over() {
        // What is ahead of an operator or handle is not in it.
        good("in " + inside(39, "(1) :: nil"));
        good("in " + inside(39, "(true) andalso true"));
        good("in " + inside(39, "(true) orelse true"));
        good("in " + inside(39, "(1) handle _ => 1"));
        good("in " + inside(39, "(1 + 1) handle _ => 1"));
        good("in fn " + inside(38, "(x) :: y") + " => 1");
        good("exception E of " + inside(39, "(int) -> int") + " in 1");
        // What is behind them is.
        fault(MANY, "in " + inside(39, "1 :: \u00a7(nil)"));
        fault(MANY, "in " + inside(39, "true andalso \u00a7(true)"));
        fault(MANY, "in " + inside(39, "true orelse \u00a7(true)"));
        fault(MANY, "in " + inside(39, "1 handle \u00a7(_) => 1"));
        fault(MANY, "in " + inside(39, "1 handle _ => \u00a7(1)"));
        fault(MANY, "in " + inside(39, "1 handle Div => 1 | _ => \u00a7(1)"));
        fault(MANY, "in fn " + inside(38, "x :: \u00a7(y)") + " => 1");
        fault(MANY, "in fn " + inside(38, "x as \u00a7(y)") + " => 1");
        fault(MANY, "in fn " + inside(38, "x as y \u00a7:: z") + " => 1");
        fault(MANY, "exception E of " + inside(39, "int -> \u00a7(int)") + " in 1");
        // Behind their right side they are over.
        good("in " + inside(39, "1 :: nil : int list"));
        good("in " + inside(39, "true andalso true orelse true"));
        fault(MANY, "in " + inside(39, "true orelse true \u00a7andalso true"));
        good("in " + inside(38, "true andalso true orelse true andalso true"));
        good("in " + inside(38, "(1 :: nil, 2 :: nil, 3 :: nil)"));
        good("in fn " + inside(37, "(x as y, z as w)") + " => 1");
        good("in fn " + inside(37, "(x :: y, z :: w, [])") + " => 1");
        good("in fn " + inside(37, "(x as y, 1) :: z") + " => 1");
        good("exception E of " + inside(38, "(int -> int) * (int -> int)") + " in 1");
        good("in " + inside(38, "let val x = fn y => y val z = if true then 1 else 2 fun f x = raise Div in f 1 end"));
        good("in " + inside(38, "(fn x => 1, case 1 of _ => 1, 1 handle _ => 1)"));
        good("in " + times("(1) handle _ => ", 39) + "1");
        String[] closed = {"(_)", "()", "[_]", "[]", "[_, _]", "(_ :: _)", "(_, 2)", "(_ : int list)", "nil", "~1"};
        for (String pat : closed) {
            good("fun f " + inside(38, times(pat + ", ", 29) + pat) + " = 1 in 1");
            good("val " + inside(38, times(pat + ", ", 29) + pat) + " = raise Div in 1");
        }
        good("fun f " + inside(37, "(a as _, b as (_, _), c as d as _, e as _ :: _)") + " = 1 in 1");
        good("fun f " + inside(36, "(a as _, b as (_, _), [c, d], [[e]], (g as [_]) :: _)") + " = 1 in 1");
        good("in ((raise Div) : " + inside(38, "(int) * (bool) * (unit) * int list") + ")");
        good("in ((raise Div) : " + inside(38, times("(int) * ", 29) + "(int)") + ")");
        good("in " + inside(38, times("[[1], [], [2]]; ", 30) + "1"));
        good("in " + inside(38, times("let val x = (1) in (x) end; ", 30) + "1"));
        good("in " + inside(38, times("(raise Div; case 1 of x => x); ", 10) + "1"));
        // fun, val and a clause's = open nothing.
        good("in " + inside(38, "let fun f x = (1) in 1 end"));
        fault(MANY, "in " + inside(38, "let fun f x = (\u00a7(1)) in 1 end"));
        good("in " + inside(38, "let val rec f = fn x => 1 in 1 end"));
        fault(MANY, "in " + inside(38, "let val rec f = fn x => \u00a7(1) in 1 end"));
    }

    private static String row(String one, String between, int n) {
        return one + times(between + one, n - 1);
    }

    /** "30 fields of a tuple, or TYPEs of a product": "the first one of that one, if it can begin one". */
    private static void fields() {
        type("in (" + row("1", ", ", 30) + ")", row("int", " * ", 30));
        for (String begins : "1 ~1 x \"a\" ~ ! ref ( [ let fn case if while raise".split(" ")) {
            fault(MANY, "in (" + row("1", ", ", 30) + ", \u00a7" + begins);
        }
        for (String not : ") ] , ; : | = => -> * + - ^ :: := < > _ and then val end in of handle".split(" ")) {
            fault(SYNTAX, "in (" + row("1", ", ", 30) + ", \u00a7" + not);
        }
        fault(SYNTAX, "in (" + row("1", ", ", 30) + ",\u00a7");
        fault(TOKEN, "in (" + row("1", ", ", 30) + ", \u00a7#");
        type("in fn (" + row("_", ", ", 30) + ") => 1", functionFromFresh(30));
        for (String begins : "1 ~1 x _ ( [".split(" ")) fault(MANY, "in fn (" + row("_", ", ", 30) + ", \u00a7" + begins);
        for (String not : ") ] , ; : | = => -> * ~ ! ref fn let \"\" :: as".split(" ")) {
            fault(SYNTAX, "in fn (" + row("_", ", ", 30) + ", \u00a7" + not);
        }
        type("in fn (x : " + row("int", " * ", 30) + ") => 1", row("int", " * ", 30) + " -> int");
        for (String begins : "int 'a (".split(" ")) fault(MANY, "in fn (x : " + row("int", " * ", 30) + " * \u00a7" + begins);
        for (String not : ") ] , * -> 1 _ [ val".split(" ")) {
            fault(SYNTAX, "in fn (x : " + row("int", " * ", 30) + " * \u00a7" + not);
        }
        // Neither elements, nor what a sequence has, nor the TYPEs ahead of a NAME, nor rules are counted.
        type("in [" + row("1", ", ", 500) + "]", "int list");
        type("in fn [" + row("_", ", ", 500) + "] => 1", "'a list -> int");
        type("in (" + row("1", "; ", 500) + ")", "int");
        type("in let in " + row("1", "; ", 500) + " end", "int");
        type("in fn " + row("1 => 2", " | ", 300), "int -> int");
        type("in ((" + row("1", ", ", 30) + "), (" + row("1", ", ", 30) + "))", "(" + row("int", " * ", 30) + ") * (" + row("int", " * ", 30) + ")");
        StringBuilder variables = new StringBuilder("'a0");
        for (int k = 1; k < 60; k++) variables.append(", 'a").append(k);
        type("datatype (" + variables + ") t = A in fn (x : (" + row("int", ", ", 60) + ") t) => 1", "(" + row("int", ", ", 60) + ") t -> int");
    }

    private static String functionFromFresh(int n) {
        StringBuilder s = new StringBuilder("'a");
        for (int k = 1; k < n; k++) s.append(" * '").append((char) ('a' + k % 26)).append(k >= 26 ? "1" : "");
        return s + " -> int";
    }

    /** "12 ATPATs of a clause". */
    private static void atpats() {
        good("fun f" + times(" _", 12) + " = 1 in f");
        good("fun f" + times(" _", 12) + " : int = 1 | f" + times(" _", 12) + " = 2 in f");
        for (String begins : "1 ~1 x _ ( [".split(" ")) fault(MANY, "fun f" + times(" _", 12) + " \u00a7" + begins);
        for (String not : ") , -> :: as ~ ! ref \"\" let fn in | and".split(" ")) fault(SYNTAX, "fun f" + times(" _", 12) + " \u00a7" + not);
        fault(MANY, "fun f _ = 1 | f" + times(" _", 12) + " \u00a7_ = 1 in f");
        fault(MANY, "fun f _ = 1 and g" + times(" _", 12) + " \u00a7_ = 1 in f");
        fault(MANY, "in let fun f" + times(" 1", 12) + " \u00a71 = 1 in f end");
        good("in fn " + times("_ => fn ", 13) + "_ => 1");
    }

    private static String cons(String name, int n) {
        StringBuilder s = new StringBuilder(name + "1");
        for (int k = 2; k <= n; k++) s.append(" | ").append(name).append(k);
        return s.toString();
    }

    private static String exceptions(int n) {
        StringBuilder s = new StringBuilder();
        for (int k = 1; k <= n; k++) s.append("exception E").append(k).append(' ');
        return s.toString();
    }

    /** "60 constructors and exceptions, 30 types". */
    private static void constructors() {
        good("datatype t = " + cons("C", 60) + " in 1");
        fault(MANY, "datatype t = " + cons("C", 60) + " | \u00a7D in 1");
        fault(MANY, "datatype t = " + cons("C", 60) + " | \u00a7D of int in 1");
        fault(MANY, "datatype t = " + cons("C", 60) + " and u = \u00a7D in 1");
        fault(MANY, "datatype t = " + cons("C", 60) + " | \u00a7C1 in 1");
        fault(MANY, "datatype t = " + cons("C", 60) + " exception \u00a7D in 1");
        fault(SYNTAX, "datatype t = " + cons("C", 60) + " | \u00a7in 1");
        fault(TOKEN, "datatype t = " + cons("C", 60) + " | \u00a7# in 1");
        good(exceptions(60) + "in 1");
        fault(MANY, exceptions(60) + "exception \u00a7F in 1");
        fault(MANY, exceptions(60) + "datatype t = \u00a7F in 1");
        good(exceptions(30) + "datatype t = " + cons("C", 30) + " in (C30, E30)");
        fault(MANY, exceptions(30) + "datatype t = " + cons("C", 30) + " exception \u00a7F of int in 1");
        StringBuilder types = new StringBuilder();
        for (int k = 1; k <= 30; k++) types.append("datatype t").append(k).append(" = T").append(k).append(' ');
        good(types + "in T30");
        fault(MANY, types + "datatype \u00a7u = U in 1");
        fault(MANY, types + "datatype 'a \u00a7u = U in 1");
        fault(MANY, types + "datatype \u00a7t1 = U in 1");
        fault(MANY, types.substring(0, types.length() - 1) + " and \u00a7u = U in 1");
        fault(SYNTAX, types + "datatype \u00a7= U in 1");
        good(types.toString().replace("datatype t2 ", "and t2 ") + "in T30");
        good(types + exceptions(30) + "in T1");
        fault(MANY, types + exceptions(30) + "exception \u00a7F in 1");
    }

    private static String vals(int n) {
        return times("val x = 1 ", n);
    }

    /** "100 variables that can be seen at a place (.. found like 3 to 6, at the variable; one that stands twice is 4)". */
    private static void variables() {
        String hundred = vals(100);
        good(hundred + "in x");
        fault(MANY, hundred + "val \u00a7x = 1 in 1");
        fault(MANY, hundred + "val rec \u00a7f = fn 1 => 1 in 1");
        fault(MANY, hundred + "fun \u00a7f 1 = 1 in 1");
        fault(MANY, hundred + "in fn \u00a7y => 1");
        fault(MANY, hundred + "in fn 1 :: \u00a7y => 1");
        fault(MANY, hundred + "in case 1 of 1 => 2 | \u00a7y => 1");
        fault(MANY, hundred + "in 1 handle \u00a7y => 1");
        fault(MANY, hundred + "in fn \u00a7y as 1 => 1");
        fault(MANY, hundred + "in let val \u00a7y = 1 in 1 end");
        fault(MANY, vals(99) + "in fn (y, \u00a7z) => 1");
        fault(MANY, vals(99) + "in fn y as \u00a7z => 1");
        fault(MANY, vals(99) + "val (y, \u00a7z) = (1, 2) in 1");
        fault(MANY, vals(99) + "fun f \u00a7y = 1 in 1");
        fault(MANY, vals(99) + "fun f _ = 1 and \u00a7g _ = 1 in 1");
        fault(MANY, vals(98) + "fun f y \u00a7z = 1 in 1");
        fault(MANY, vals(98) + "fun f 1 = 1 | f y = let val \u00a7z = 1 in 1 end in 1");
        fault(MANY, vals(99) + "val rec f = fn \u00a7y => 1 in 1");
        good(hundred + "datatype t = A exception B in fn A => B");
        good(hundred + "in (print, not, ~, !, ref, Div, true, nil, fn _ => 1)");
        // Those that can't be seen any more, or not yet, are not counted.
        good(vals(99) + "in (fn y => y, fn y => y, case 1 of y => y, let val y = 1 in y end)");
        good(vals(99) + "in fn 1 => 1 | y => y | z => z");
        good(vals(98) + "fun f 1 = 1 | f y = y | f z = z in f");
        good(vals(98) + "fun f y = y in fn z => z");
        fault(MANY, vals(98) + "fun f y = y in fn z => fn \u00a7w => z");
        good(vals(98) + "val (y, z) = let val (a, b) = (1, 2) in (a, b) end in y");
        fault(MANY, vals(98) + "val (y, z) = let val (a, b) = (1, 2) val \u00a7c = 3 in (a, b) end in y");
        good(vals(98) + "val (y, z) = let val (a, b) = (fn (p, q) => 1, 2) in (a, b) end in 1");
        fault(MANY, vals(98) + "val (y, z) = let val (a, b) = (fn (p, q, \u00a7r) => 1, 2) in (a, b) end in 1");
        good(vals(98) + "val (y, z) = let val (a, b) = let val (c, d) = (fn (p, q) => 1, 2) in (c, d) end in (a, b) end in 1");
        good(vals(99) + "val y = (fn z => z) 1 in y");
        fault(MANY, vals(99) + "val y = (fn (z, \u00a7w) => z) (1, 2) in y");
        fault(MANY, vals(99) + "val y = 1 in fn \u00a7z => z");
        // "one that stands twice is 4".
        fault(AGAIN, vals(99) + "in fn (y, \u00a7y) => 1");
        fault(AGAIN, vals(99) + "fun f 1 = 1 and \u00a7f 2 = 2 in 1");
        fault(AGAIN, vals(98) + "fun f y \u00a7y = 1 in 1");
        // It is found like 3 to 6: behind what is found by tokens, and among these by its place.
        fault(SYNTAX, hundred + "val y = 1 in \u00a7");
        fault(NAME, hundred + "in (\u00a7z, fn y => 1)");
        fault(MANY, hundred + "in (fn \u00a7y => 1, z)");
        fault(TYPE, hundred + "in (1 \u00a7+ true, fn y => 1)");
    }

    /** "2,000 tokens": the 2,001st is one too many. Blanks and comments are none; a STRING is one. */
    private static void tokens() {
        type("in " + times("1+", 999) + "1", "int");
        same("tokens", 1 + 2 * 999 + 1, 2000);
        fault(MANY, "in " + times("1+", 999) + "1\u00a7+1");
        fault(MANY, "in " + times("1+", 999) + "1 \u00a71");
        fault(MANY, "in " + times("1+", 999) + "1 \u00a7\"a\"");
        fault(TOKEN, "in " + times("1+", 999) + "1 \u00a7#");
        fault(TOKEN, "in " + times("1+", 999) + "1 \u00a7\"");
        fault(TOKEN, "in " + times("1+", 999) + "1 \u00a7(*");
        type("in " + times("1+", 999) + "1" + times("(**) ", 500), "int");
        type("(**)in " + times("1 +", 999) + "1 (* 1 2 3 *)", "int");
        type("val x = 1; in size (" + times("\"a b\"^", 995) + "\"\")", "int");
        fault(MANY, "val x = 1; in size (" + times("\"a b\"^", 995) + "\"\") \u00a7\"a b\"");
        fault(SYNTAX, "in " + times("1+", 998) + "1+\u00a7");
        fault(SYNTAX, "in " + times("1+", 999) + "\u00a7+1");
        fault(SYNTAX, "in " + times("1+", 998) + "1 \u00a7then 1 1 1 1");
        type("in [" + times("~1,", 998) + "~1]", "int list");
        fault(MANY, "in [" + times("~1,", 998) + "~1]\u00a7::[]");
        fault(MANY, "in [" + times("1,", 998) + "1,\u00a71]");
    }

    /** "A type with general variables has at most 100 parts (each variable, name, -> and product, as often as written ..)". */
    private static void parts() {
        // nil's type has 2 parts, a pair of so many 2 n + 1.
        type("val y = (" + row("nil", ", ", 30) + ") in 1", "int");
        String nested = "((" + row("nil", ", ", 29) + "), (" + row("nil", ", ", 19) + "), ";
        // 1 for the whole, 59 and 39 for the two: one part is left.
        good("val y = " + nested + "1) in 1");
        good("val y = " + nested + "true) in 1");
        fault(MANY, "val \u00a7y = " + nested + "nil) in 1");
        fault(MANY, "val \u00a7y = " + nested + "1, 2) in 1");
        good("fun f () = (" + row("nil", ", ", 30) + ") in 1");
        // x -> result: 'a, -> and the result's.
        good("fun f x = ((" + row("nil", ", ", 29) + "), (" + row("nil", ", ", 18) + ")) in 1");
        good("fun f x = ((" + row("nil", ", ", 29) + "), (" + row("nil", ", ", 18) + "), 1) in 1");
        good("fun f x = ((" + row("nil", ", ", 29) + "), (" + row("nil", ", ", 16) + "), x, x, fn y => 1) in 1");
        fault(MANY, "fun \u00a7f x = ((" + row("nil", ", ", 29) + "), (" + row("nil", ", ", 16) + "), x, x, fn y => y, 1) in 1");
        fault(MANY, "fun \u00a7f x = ((" + row("nil", ", ", 29) + "), (" + row("nil", ", ", 18) + "), 1, 2) in 1");
        fault(MANY, "val rec \u00a7f = fn x => ((" + row("nil", ", ", 29) + "), (" + row("nil", ", ", 18) + "), 1, 2) in 1");
        fault(MANY, "val (a, \u00a7b) = (nil, " + nested + "nil)) in 1");
        fault(MANY, "val \u00a7a as (b, c, d, e) = " + nested + "1, 1) in 1");
        fault(MANY, "fun f x = x and \u00a7g x = " + nested + "x) in 1");
        fault(MANY, "in let val \u00a7y = " + nested + "nil) in 1 end");
        // Without general variables there is no such limit, nor where nothing is declared.
        type("val a = (" + row("1", ", ", 30) + ") val b = (a, a, a, a) in 1", "int");
        good("in fn x => let val y = (" + row("x", ", ", 30) + ") val z = (y, y, y, y) in z end");
        good("in (" + nested + "nil), " + nested + "nil))");
        good("val r = ref " + nested + "nil) in 1");
        StringBuilder variables = new StringBuilder("'a1");
        for (int k = 2; k <= 97; k++) variables.append(", 'a").append(k);
        // 97 variables and the name: 98 parts; with -> and a name 100.
        good("datatype (" + variables + ") t = A | B of int | C of 'a97 in 1");
        fault(MANY, "datatype (" + variables + ") t = A | \u00a7B of int list in 1");
        good("datatype (" + variables + ", 'b, 'c) t = A in 1");
        fault(MANY, "datatype (" + variables + ", 'b, 'c, 'd) t = \u00a7A in 1");
        fault(MANY, "datatype (" + variables + ", 'b, 'c) t = A | \u00a7B of int in 1");
        good("datatype t = A of " + row("int", " * ", 30) + " | B of (" + row("int", " * ", 30) + ") * (" + row("int", " * ", 30)
            + ") * (" + row("int", " * ", 30) + ") * (" + row("int", " * ", 30) + ") in 1");
    }

    public static void main(String[] args) {
        opened();
        openedInOneAnother();
        over();
        fields();
        atpats();
        constructors();
        variables();
        tokens();
        parts();
        finish("limits");
    }
}
