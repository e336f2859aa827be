/** Part D of the document: what takes room, how much, and when what can't be reached any more goes. */
public final class HeapTest extends Houses {
    private static final String AHEAD = "datatype 'a o = N | S of 'a exception E of int exception F ";

    private static String row(String one, String between, int n) {
        return one + times(between + one, n - 1);
    }

    private static String tuple(int fields) {
        return "(" + row("1", ", ", fields) + ")";
    }

    /** "int, bool, unit, constructors and exceptions without argument, the functions that are known ahead, and constructors as functions take no room". */
    private static void noRoom() {
        for (String exp : "1|~1073741824|true|false|()|nil|[]|N|Div|F|S|E|~|!|ref|not|print|put|str|chr|size|sub|given|many".split("\\|")) {
            words(AHEAD + "in " + exp, 0);
            words(AHEAD + "val x = " + exp + " in 1", 0);
        }
        words("in 1 + 2 * 3 - 4 div 5", 0);
        words("in (1 < 2 andalso 3 = 4) orelse not true", 0);
        words("in if true then 1 else 2", 0);
        words("in (put 1; many (); 1 handle _ => 2)", 0);
        words("in while false do 1", 0);
        words("in raise Div handle _ => Match", 0);
        words("val x = 1 in let val y = x in case y of z => z end", 0);
    }

    /** "a tuple 1 and one for each field; a constructor's or exception's with argument 2; a ref 2". */
    private static void objects() {
        for (int n = 2; n <= 30; n++) words("in " + tuple(n), n + 1);
        words("in ((1, 2), (3, 4, 5))", 3 + 4 + 3);
        words(AHEAD + "in S 1", 2);
        words(AHEAD + "in E 1", 2);
        words(AHEAD + "in S (S (S N))", 6);
        words(AHEAD + "in S (1, 2)", 5);
        words("in ref 1", 2);
        words("in ref (ref ())", 4);
        words("val r = ref 1 in (r := 2; r := 3; !r)", 2);
        for (int n = 0; n <= 12; n++) words("in [" + (n == 0 ? "" : row("1", ", ", n)) + "]", 5 * n);
        words("in 1 :: 2 :: nil", 10);
        words("val x = [1] in (2 :: x, 3 :: x)", 5 + 5 + 5 + 3);
        words("in case [1, 2, 3] of x :: y => y | _ => nil", 15);
        words("val (x, y) = (1, 2) in x", 3);
        words(AHEAD + "in (raise E 1) handle E x => x", 2);
    }

    /** "a string 1 and one for each four bytes that it has or begins"; "a STRING makes an object each time that it is worked out". */
    private static void strings() {
        for (int n = 0; n <= 200; n++) {
            if (n > 17 && n < 195) continue;
            words("in \"" + times("a", n) + "\"", 1 + (n + 3) / 4);
            words("in \"" + times("\\255", n) + "\"", 1 + (n + 3) / 4);
        }
        for (int n = 0; n <= 9; n++) {
            for (int m = 0; m <= 5; m++) {
                int due = 1 + (n + 3) / 4 + 1 + (m + 3) / 4 + 1 + (n + m + 3) / 4;
                words("in \"" + times("a", n) + "\" ^ \"" + times("b", m) + "\"", due);
            }
        }
        words("in chr 0", 2);
        words("in str 0", 2);
        words("in str 9999", 2);
        words("in str ~999", 2);
        words("in str 10000", 3);
        words("in str ~9999", 3);
        words("in str 99999999", 3);
        words("in str 100000000", 4);
        words("in str 1073741823", 4);
        words("in str ~1073741824", 4);
        words("in size \"abcd\"", 2);
        words("in sub (\"abcd\", 1)", 5);
        words("fun f x = \"abcd\" in (f 1; f 2; f 3)", 2 + 3 * 2);
        words("val r = ref 0 in while !r < 4 do (\"\"; r := !r + 1)", 2 + 4);
        words("val s = \"abcd\" in (s, s)", 2 + 3);
        words("in (\"abcd\", \"abcd\")", 2 + 2 + 3);
    }

    /** "a function (fn, or one of a fun) 2 and one for each variable that stands in it and is bound outside of it ..". */
    private static void functions() {
        words("in fn x => x", 2);
        words("in fn x => fn y => x", 2);
        words("in (fn x => fn y => x) 1", 2 + 3);
        words("val a = 1 in fn x => a", 3);
        words("val a = 1 in fn x => a + a + a", 3);
        words("val a = 1 val b = 2 in fn x => (a, b, x)", 4);
        words("val a = 1 in fn a => a", 2);
        words("val a = 1 in fn x => let val a = a in a end", 3);
        words("val a = 1 in fn x => let val a = 2 in a end", 2);
        words("val a = 1 in fn x => case x of a => a", 2);
        words("val a = 1 in fn x => fn y => a", 3);
        words("val a = 1 in (fn x => fn y => a) 2", 3 + 3);
        words("val a = 1 val a = 2 in fn x => a", 3);
        words("val a = 1 in fn x => let fun g y = a in 1 end", 3);
        words("val a = 1 in fn x => x handle _ => a", 3);
        words("val a = 1 in fn 1 => 2 | 2 => a | _ => a", 3);
        words("val a = 1 val b = a in 1", 0);
        // "(but known ahead".
        words(AHEAD + "in fn x => (print, not, ~, !, ref, S, N, E, Div, true, nil, \"a\")", 2);
        words("val print = 1 in fn x => print", 3);
        // "of a function itself, by fun or val rec: not counted".
        words("fun f x = x in 1", 2);
        words("fun f x = f x in 1", 2);
        words("fun f x = fn y => f x y in 1", 2);
        words("val rec f = fn x => f x in 1", 2);
        words("val rec f = fn x => fn y => f x y in 1", 2);
        words("val a = 1 fun f x = f a in 1", 3);
        words("val f = fn x => x val f = fn x => f x in 1", 2 + 3);
        // In a function within it that is another matter.
        words("fun f x = fn y => f x y in f 1", 2 + (2 + 2));
        words("fun f x = let fun g y = (f y; 1) in x end in f 1", 2 + (2 + 1));
        words("fun f x = fn y => f x y in f", 2);
        words("fun f x = x fun g x = f x in 1", 2 + 3);
        words("fun f x = x val rec g = fn x => f (g x) in 1", 2 + 3);
        // "others of the same fun: counted".
        words("fun f x = 1 and g x = 2 in 1", 4);
        words("fun f x = g x and g x = 2 in 1", 3 + 2);
        words("fun f x = g x and g x = f x in 1", 3 + 3);
        words("fun f x = f (g x) and g x = g (f x) in 1", 3 + 3);
        words("fun f x = (f x; g x; h x) and g x = h x and h x = 1 in 1", 4 + 3 + 2);
        words("val a = 1 fun f x = g a and g x = (f x; a) in 1", 4 + 4);
    }

    /** "Clauses of more ATPATs are functions in one another: each but the last gives a function .. that has in it ..". */
    private static void moreAtpats() {
        words("fun f x y = x in f", 2);
        words("fun f x y = x in f 1", 2 + 3);
        words("fun f x y = 1 in f 1", 2 + 3);
        words("fun f x y = x in f 1 2", 2 + 3);
        words("fun f x y z = x in f 1", 2 + 3);
        words("fun f x y z = x in f 1 2", 2 + 3 + 4);
        words("fun f x y z = x in f 1 2 3", 2 + 3 + 4);
        words("fun f x y z w = x in f 1 2 3 4", 2 + 3 + 4 + 5);
        words("val a = 1 fun f x y = a in f 1", 3 + 4);
        words("val a = 1 val b = 2 fun f x y z = (a, b) in f 1 2", 4 + 5 + 6);
        // "(and that itself, if it stands in the clauses)".
        words("fun f x y = (f x; y) in f", 2);
        words("fun f x y = (f x; y) in f 1", 2 + 4);
        words("fun f x y z = (f x; y) in f 1 2", 2 + 4 + 5);
        words("val a = 1 fun f x y z = (f a; y) in f 1 2", 3 + 5 + 6);
        words("fun f x y = fn z => (f z z; z) in f 1", 2 + 4);
        words("fun f x y = fn z => (f z z; z) in f 1 2", 2 + 4 + 3);
        words("fun f x y = g x and g x = f x 1 in f 2", 3 + 3 + 4);
        words("fun f x y = (f x; g x) and g x = f x 1 in f 2", 3 + 3 + 5);
        words("fun f 0 0 = 1 | f x y = f 0 0 in f 2", 2 + 4);
        words("fun f" + times(" _", 12) + " = 1 in f" + times(" 1", 12), 2 + (3 + 13) * 11 / 2);
    }

    /** "HEAP: so many words. What needs n words when fewer are free": as many as are free can be had without a COLLECTION. */
    private static void full() {
        ends("in " + tuple(15), 1, 16, "0 0 0 16 15");
        ends("in " + tuple(16), 1, 16, "3 1 1 0 16");
        ends("in " + tuple(16), 1, 17, "0 0 0 17 16");
        ends("in " + tuple(30), 1, 30, "3 1 1 0 30");
        ends("in " + tuple(30), 1, 31, "0 0 0 31 30");
        ends("in \"" + times("a", 60) + "\"", 1, 16, "0 0 0 16 1");
        ends("in \"" + times("a", 61) + "\"", 1, 16, "3 1 1 0 0");
        ends("val a = " + tuple(13) + " in ref 1", 5, 16, "0 1 0 16 13");
        ends("val a = " + tuple(14) + " in ref 1", 5, 16, "3 2 1 15 14");
        ends("val a = " + tuple(14) + " in \"\"", 5, 16, "0 0 0 16 14");
        ends("val a = " + tuple(15) + " in \"\"", 5, 16, "3 1 1 16 15");
        ends("val a = " + tuple(13) + " in fn x => x", 5, 16, "0 0 0 16 13");
        ends("val a = " + tuple(13) + " in fn x => a", 5, 16, "3 1 1 14 13");
        // "to :: 5 words at once".
        ends("val a = " + tuple(10) + " in 1 :: nil", 5, 16, "0 0 0 16 10");
        ends("val a = " + tuple(11) + " in 1 :: nil", 5, 16, "3 1 1 12 11");
        ends("val a = " + tuple(14) + " in [1]", 5, 16, "3 1 1 15 14");
        ends("in [1, 2, 3]", 5, 16, "0 0 0 15 4");
        // "a list's elements first, then it is put together from the last one on".
        ends("in [" + tuple(4) + ", " + tuple(4) + "]", 5, 16, "3 1 1 15 5");
        ends("in [" + tuple(4) + ", " + tuple(4) + "]", 5, 20, "0 0 0 20 5");
        ends("in " + tuple(4) + " :: " + tuple(4) + " :: nil", 5, 16, "3 1 1 15 5");
        ends("in [" + tuple(4) + ", (" + tuple(6) + "; (3, 4, 5, 6))]", 5, 20, "0 1 1 20 7");
        ends("in [1, 2, 3, 4]", 5, 16, "3 1 1 15 5");
        // "Functions of one fun are made at once."
        ends("val a = " + tuple(11) + " fun f x = 1 and g x = 2 in 1", 5, 16, "0 0 0 16 11");
        ends("val a = " + tuple(12) + " fun f x = 1 and g x = 2 in 1", 5, 16, "3 1 1 13 12");
        ends("val a = " + tuple(12) + " fun f x = 1 fun g x = 2 in 1", 5, 16, "3 1 1 15 12");
        ends("val a = " + tuple(13) + " fun f x y = 1 in f 1", 5, 16, "3 2 1 16 13");
        ends("fun f x = \"\" in f 1", 5, 4096, "0 1 0 3 7");
    }

    /** "all that can't be reached from the pile any more goes first (a COLLECTION)". */
    private static void collected() {
        // What is dropped goes, and gives room.
        ends("in (" + tuple(15) + "; " + tuple(15) + ")", 5, 16, "0 1 1 16 15");
        ends("in (" + row(tuple(15), "; ", 5) + ")", 5, 16, "0 4 4 16 15");
        ends("in (" + row(tuple(9), "; ", 3) + ")", 5, 29, "0 1 1 10 9");
        ends("in (" + row(tuple(9), "; ", 3) + ")", 5, 30, "0 0 0 30 9");
        // A variable that can be seen keeps what it has, one that can't be seen any more does not.
        ends("val a = (1, 2, 3) in (" + tuple(11) + "; " + tuple(11) + ")", 5, 16, "0 1 1 16 13");
        ends("in (let val a = " + tuple(7) + " in 1 end; " + tuple(8) + ")", 5, 16, "0 1 1 9 8");
        ends("in let val a = " + tuple(7) + " in " + tuple(8) + " end", 5, 16, "3 1 1 8 10");
        ends("in (case " + tuple(7) + " of a => 1; " + tuple(8) + ")", 5, 16, "0 1 1 9 8");
        ends("in (case " + tuple(7) + " of a => " + tuple(8) + "; 1)", 5, 16, "3 1 1 8 10");
        // The value that a PAT is matched with stays, though no variable has it.
        ends("in case " + tuple(7) + " of _ => " + tuple(8), 5, 16, "3 1 1 8 9");
        ends("val _ = " + tuple(7) + " in " + tuple(8), 5, 16, "3 1 1 8 9");
        ends("in (fn _ => " + tuple(6) + ") " + tuple(6), 5, 16, "0 1 0 16 10");
        ends("in (fn _ => " + tuple(7) + ") " + tuple(6), 5, 16, "3 2 1 9 11");
        String raises = "exception E of int * int * int in (raise E (1, 2, 3)) handle _ => ";
        ends(raises + "(" + tuple(9) + "; " + tuple(9) + ")", 9, 16, "0 2 1 16 10");
        ends(raises + "(" + tuple(9) + "; " + tuple(10) + ")", 9, 16, "3 2 1 6 11");
        // What a ref had goes, what it has stays.
        ends("val r = ref " + tuple(5) + " in (r := " + tuple(5) + "; " + tuple(7) + ")", 9, 16, "0 2 1 16 9");
        ends("val r = ref " + tuple(5) + " in (" + tuple(5) + "; " + tuple(8) + ")", 9, 16, "3 2 1 8 10");
        // Through tuples, lists, constructors, refs and functions all is reached; what is shared stays one.
        String shared = "datatype t = T of int * int val a = (1, 2) val b = T a val c = [b] val d = ref c val e = fn x => d "
            + "val f = (a, b, c, d, e, e) in (" + tuple(6) + "; 7)";
        ends(shared, 50, 28, "3 3 1 22 18");
        ends(shared, 50, 29, "0 2 0 29 18");
        // A function that waits for more arguments is no greater behind a collection than ahead of it.
        ends("fun f x y = x val g = f 1 in (" + tuple(9) + "; " + tuple(9) + ")", 9, 16, "0 2 1 15 12");
        ends("fun f x y z = x val g = f 1 2 in (" + tuple(9) + "; " + tuple(9) + ")", 9, 22, "0 3 1 16 12");
        ends("fun f x y = (f x; x) val g = f 1 in (" + tuple(9) + "; " + tuple(9) + ")", 9, 20, "0 2 1 16 12");
        // What waits on the pile stays till it is taken off.
        ends("in (" + tuple(4) + ", " + tuple(4) + ", " + tuple(4) + ")", 5, 18, "3 1 1 15 6");
        ends("in (" + tuple(4) + ", " + tuple(4) + ", " + tuple(4) + ")", 5, 19, "0 0 0 19 6");
        ends("in (" + tuple(5) + ", 1, (" + tuple(5) + "; 2), 3)", 5, 16, "0 1 1 11 7");
        ends("in \"aaaa\" ^ \"bbbb\" ^ \"cccc\" ^ \"dddd\"", 9, 16, "0 1 1 11 2");
        ends("fun f n = if n = 0 then 0 else (ref n; f (n - 1)) in f 7", 99, 16, "0 15 0 16 9");
        ends("fun f n = if n = 0 then 0 else (ref n; f (n - 1)) in f 8", 99, 16, "0 18 1 4 9");
        ends("fun f n = if n = 0 then 0 else (ref n; f (n - 1)) in f 100", 999, 16, "0 215 14 6 9");
    }

    /** What a call has on the pile is reached: "its function, its argument", and what it is called in. */
    private static void calls() {
        ends("fun f x = " + tuple(8) + " in f " + tuple(4), 5, 16, "0 1 0 16 14");
        ends("fun f x = " + tuple(9) + " in f " + tuple(4), 5, 16, "3 2 1 7 15");
        ends("fun f _ = " + tuple(9) + " in f " + tuple(4), 5, 16, "3 2 1 7 14");
        // A call in tail position keeps only its own function and argument.
        ends("fun g x = " + tuple(9) + " fun f x = g 1 in f " + tuple(4), 9, 16, "0 3 1 15 16");
        ends("fun g x = " + tuple(9) + " fun f x = (g 1; 2) in f " + tuple(4), 9, 16, "3 3 1 10 21");
        // The function that is called stays, with what it has in it.
        ends("in (let val a = " + tuple(4) + " in fn x => (" + tuple(7) + "; a) end) 1", 9, 16, "0 1 0 16 12");
        ends("in (let val a = " + tuple(4) + " in fn x => (" + tuple(8) + "; a) end) 1", 9, 16, "3 2 1 8 13");
        ends("in (let val a = " + tuple(4) + " in fn x => " + tuple(10) + " end) 1", 9, 16, "0 2 1 13 15");
    }

    /** What moves stays what it is, and what was one stays one, through many collections. */
    private static void moved() {
        String loop = " val i = ref 0 in (while !i < 200 do (" + tuple(6) + "; i := !i + 1); ";
        String[] made = {"\"abcdefghi\"", "(1, (2, 3))", "[1, 2]", "ref (ref 7)", "S (S 3)", "E \"x\"", "fn x => (x, i)", "\"\"", "(\"\", print, ~5, ())"};
        String[] due = {"\"abcdefghi\"", "(1, (2, 3))", "[1, 2]", "ref (ref 7)", "S (S 3)", "E \"x\"", "fn", "\"\"", "(\"\", fn, ~5, ())"};
        for (int k = 0; k < made.length; k++) {
            String text = "datatype 'a o = S of 'a exception E of string val i = 1 val v = " + made[k] + loop + "v)";
            House house = program(text, 3 * 20);
            if (house == null) return;
        for (int how : hows()) {
                same("end of " + text, house.run(how, STEPS_MOST, 24), 0);
                same("collections of " + text, house.seen(1) > 50, true);
                told("value of " + text, house, 1, due[k], 18);
            }
        }
        movedFunctions();
        String both = "val a = ref 1 val b = (a, a) val c = fn x => a := x val i = ref 0 in "
            + "(while !i < 100 do (" + tuple(5) + "; i := !i + 1); c 5; case b of (x, y) => (x := !x + 1; (!a, !x, !y)))";
        House house = program(both, 3 * 20);
        if (house == null) return;
        for (int how : hows()) {
            same("end of " + both, house.run(how, STEPS_MOST, 18), 0);
            told("value of " + both, house, 1, "(6, 6, 6)", 12);
        }
    }

    private static void movedTo(String decs, String exp, String due) {
        String text = decs + " val i = ref 0 fun waste 0 = () | waste n = (" + tuple(6) + "; waste (n - 1)) in (waste 100; " + exp + ")";
        House house = program(text, 3 * 24);
        if (house == null) return;
        for (int how : hows()) {
            same("end of " + text, house.run(how, STEPS_MOST, 44), 0);
            same("collections of " + text, house.seen(1) > 10, true);
            told("value of " + text, house, 1, due, 20);
        }
    }

    /** Functions, and what they have in them, through collections. */
    private static void movedFunctions() {
        movedTo("fun h a b c d = [a, b, c, d] val v = h 1 2 3", "v 4", "[1, 2, 3, 4]");
        movedTo("fun h a b c = [a, b, c] val v = h 1 val w = v 2", "(w 3; w 4)", "[1, 2, 4]");
        movedTo("val x = 5 fun h a b = (a, b, x) val v = h \"ab\" val w = h \"c\"", "(v 1, w 2)", "((\"ab\", 1, 5), (\"c\", 2, 5))");
        movedTo("fun f 0 = 7 | f n = g (n - 1) and g 0 = 8 | g n = f (n - 1)", "(f 3, g 3, f 4)", "(8, 7, 7)");
        movedTo("val x = (1, 2) val rec f = fn 0 => x | n => f (n - 1)", "f 3", "(1, 2)");
        movedTo("val x = ref 1 fun f n = (x := n; fn m => (x, m))", "f 3 4", "(ref 3, 4)");
        movedTo("fun f x y = let fun g z = (x, y, z) in g end val a = f \"p\" val b = a \"q\"", "b \"r\"", "(\"p\", \"q\", \"r\")");
        // With calls and handles open, one in another: what they have on the pile are no values.
        ends("fun f 0 = 0 | f n = (" + tuple(9) + "; 1 + f (n - 1)) in f 30", 999, 16, "0 60 29 12 " + (1 + 29 * 6 + 5 + 9));
        String waste = "fun waste 0 = 0 | waste n = (" + tuple(9) + "; waste (n - 1)) ";
        value(waste + "in ((waste 500; raise Div) handle Match => 1) handle Div => waste 500 + 5", "5");
        value(waste + "fun f 0 = (waste 500; raise Div) | f n = (f (n - 1) handle Match => 1) + 1 in f 20 handle Div => 6", "6");
        value(waste + "fun f 0 = waste 500 | f n = (f (n - 1) handle Match => 1) + 1 in f 20", "20");
        value(waste + "fun f 0 = (waste 500; raise Div) | f n = (f (n - 1) handle Div => waste 500) + 1 in f 20", "20");
        value(waste + "fun f 0 = nil | f n = (waste 20; n :: (waste 20; f (n - 1))) in f 12", "[12, 11, 10, 9, 8, 7, 6, 5, 4, 3, 2, 1]");
    }

    public static void main(String[] args) {
        noRoom();
        objects();
        strings();
        functions();
        moreAtpats();
        full();
        collected();
        calls();
        moved();
        finish("the heap");
    }
}
