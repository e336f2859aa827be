/** Part E of the document: in which order, what raises what, what is a STEP, and how a run ends. */
public final class RunningTest extends Houses {
    /** "From the left, as ML does: the function, then its argument, then the call; fields and elements in order ..". */
    private static void order() {
        String ahead = "fun p n = (put n; n) fun q n = (put n; fn x => (put x; x)) ";
        puts(ahead + "in q 1 (p 2)", "1\n2\n2\n");
        puts(ahead + "in (put 1; fn x => fn y => put 5) (put 2) (put 3)", "1\n2\n3\n5\n");
        puts(ahead + "in (p 1, p 2, p 3)", "1\n2\n3\n");
        puts(ahead + "in [p 1, p 2, p 3]", "1\n2\n3\n");
        puts(ahead + "in p 1 :: p 2 :: [p 3]", "1\n2\n3\n");
        for (String sign : "+ - * div mod = <> < > <= >= ::".split(" ")) {
            if (sign.equals("::")) puts(ahead + "in p 1 :: (p 2; nil)", "1\n2\n");
            else puts(ahead + "in p 1 " + sign + " p 2", "1\n2\n");
        }
        puts("in (put 1; \"a\") ^ (put 2; \"b\")", "1\n2\n");
        puts("in (put 1; ref 1) := (put 2; 3)", "1\n2\n");
        puts(ahead + "in p 1 + p 2 * p 3 - p 4", "1\n2\n3\n4\n");
        puts(ahead + "in if p 1 = 1 then p 2 else p 3", "1\n2\n");
        puts(ahead + "in if p 1 = 2 then p 2 else p 3", "1\n3\n");
        puts(ahead + "in p 1 = 1 andalso p 2 = 2 andalso p 3 = 4 andalso p 4 = 4", "1\n2\n3\n");
        puts(ahead + "in p 1 = 2 andalso p 2 = 2", "1\n");
        puts(ahead + "in p 1 = 1 orelse p 2 = 2", "1\n");
        puts(ahead + "in p 1 = 2 orelse p 2 = 2 orelse p 3 = 3", "1\n2\n");
        puts(ahead + "in (p 1; p 2; p 3)", "1\n2\n3\n");
        puts(ahead + "in let val x = p 1 val y = p 2 in p 3; p 4 end", "1\n2\n3\n4\n");
        puts(ahead + "val x = p 1 val y = p 2 in p 3", "1\n2\n3\n");
        puts(ahead + "in case p 1 of 1 => p 2 | _ => p 3", "1\n2\n");
        puts(ahead + "in (p 1; raise Div; p 2) handle Div => p 3", "1\n3\n");
        puts("val r = ref 0 in while (put (!r); !r < 2) do (r := !r + 1; put 9)", "0\n9\n1\n9\n2\n");
        puts("fun f x = (put 1; fn y => put 2) in (f 1; f 2 (put 3))", "1\n1\n3\n2\n");
        puts("fun f a b c = put 4 in f (put 1) (put 2) (put 3)", "1\n2\n3\n4\n");
        puts("fun f x y = put 1 in (f 1; put 2)", "2\n");
    }

    /** ":= gives ( ); while gives ( )", and what the others give. */
    private static void values() {
        value("in ref 1 := 2", "()");
        value("in while false do 1", "()");
        value("val r = ref 3 in while !r > 0 do r := !r - 1", "()");
        value("in (print \"a\", put 1)", "((), ())");
        value("val r = ref 1 val s = r in (r := 5; (!r, !s, s))", "(5, 5, ref 5)");
        value("val r = ref 1 val s = ref 1 in (r := 5; (!r, !s))", "(5, 1)");
        value("val r = ref [1] in (r := 2 :: !r; r := 3 :: !r; !r)", "[3, 2, 1]");
        value("in let val x = 1 in let val x = x + 1 in x end + x end", "3");
        value("val x = 1 fun f y = x + y val x = 10 in f 100", "101");
        value("fun f 0 = 1 | f n = n * f (n - 1) in f 10", "3628800");
        value("fun f 0 = 0 | f 1 = 1 | f n = f (n - 1) + f (n - 2) in f 15", "610");
        value("fun map f nil = nil | map f (x :: y) = f x :: map f y in map (fn x => x * x) [1, 2, 3]", "[1, 4, 9]");
        value("fun fold f z nil = z | fold f z (x :: y) = fold f (f (x, z)) y in fold (fn (x, z) => x - z) 0 [1, 2, 3, 4]", "2");
        value("fun even 0 = true | even n = odd (n - 1) and odd 0 = false | odd n = even (n - 1) in (even 7, odd 7)", "(false, true)");
        value("datatype t = L | B of t * int * t fun put2 L x = B (L, x, L) | put2 (B (a, y, b)) x = if x < y then B (put2 a x, y, b) else B (a, y, put2 b x) "
            + "fun all L = nil | all (B (a, x, b)) = let fun join nil z = z | join (x :: y) z = x :: join y z in join (all a) (x :: all b) end "
            + "in all (put2 (put2 (put2 (put2 L 3) 1) 4) 2)", "[1, 2, 3, 4]");
        value("fun f x = fn y => fn z => (x, y, z) val g = f 1 val h = g 2 in (h 3, g 4 5, h 6)", "((1, 2, 3), (1, 4, 5), (1, 2, 6))");
        value("fun f a b = (a, b) val g = f 1 val h = f 2 in (g 3, h 4, g 5)", "((1, 3), (2, 4), (1, 5))");
        value("fun f a b c = a * 100 + b * 10 + c val g = f 1 val h = g 2 val i = g 3 in (h 4, i 5, h 6, f 7 8 9)", "(124, 135, 126, 789)");
        value("fun f 0 b = b | f a b = f (a - 1) (b + 1) in f 5 10", "15");
        value("fun f a b = let val g = f in if a = 0 then b else g (a - 1) (b * 2) end in f 5 1", "32");
        value("datatype t = A | B | C | D in case [A, B, C, D] of [D, _, _, _] => 1 | [_, C, _, _] => 2 | [_, _, _, D] => 3 | _ => 4", "3");
    }

    /** Functions by fun and val rec, wherever they are declared, and what they are called with. */
    private static void functions() {
        value("val x = 5 val rec f = fn 0 => x | n => f (n - 1) + 1 in f 3", "8");
        value("val x = 5 val y = 6 val rec f = fn z => z + y val rec g = fn z => f z + x in (g 1, f 2)", "(12, 8)");
        value("fun g z = let val rec f = fn 0 => z | n => f (n - 1) + 1 in (f 3, f 4) end in (g 4, g 5)", "((7, 8), (8, 9))");
        value("fun g z = let val w = z * 2 val rec f = fn x => x + w in f end val x = 1 in (g 4 5, g x 7)", "(13, 9)");
        value("fun f x = x + 1 and g x = x * 2 and h x = x - 3 in (f 1, g 2, h 3)", "(2, 4, 0)");
        value("val a = 10 fun f x = x + a and g x = f x * a and h x = g (f x) in (f 1, g 2, h 3, f 4)", "(11, 120, 230, 14)");
        value("in let val a = 1 fun f x = g x + a and g 0 = 0 | g x = f (x - 1) in (f 3, g 3) end", "(4, 3)");
        value("fun k z = let fun f x = x + z and g y = f y * 2 in (f, g) end in case (k 1, k 10) of ((f, g), (h, i)) => (f 1, g 1, h 1, i 1)", "(2, 4, 11, 22)");
        value("fun f x = let val y = x + 1 in fn z => let val w = y * z in fn v => (x, y, z, w, v) end end in f 1 3 5", "(1, 2, 3, 6, 5)");
        value("val a = 1 val b = 2 val c = 3 in (fn x => fn y => (c, fn z => (b, a, z, y, x))) 4 5", "(3, fn)");
        value("val a = 1 val b = 2 val c = 3 in case (fn x => fn y => (c, fn z => (b, a, z, y, x))) 4 5 of (p, f) => f p", "(2, 1, 3, 5, 4)");
        value("fun f a b c d = (d, c, b, a) val g = f 1 val h = g 2 val i = h 3 in (i 4, h 5 6, g 7 8 9)", "((4, 3, 2, 1), (6, 5, 2, 1), (9, 8, 7, 1))");
        value("val p = 100 fun f a b c = if a = 0 then (p, b, c) else f (a - 1) c (b + p) in f 3 1 2", "(100, 102, 201)");
        value("val p = 7 fun f a b = g (a + b) p and g a b = if a > 20 then a * b else f a b in f 1 2", "168");
        value("val f = fn (x, y) => x - y in (f (5, 3), f (3, 5))", "(2, ~2)");
        value("val a = 1 val b = 2 val c = 3 val d = 4 val e = 5 val f = 6 val g = 7 fun h x = (a, b, c, d, e, f, g, x) in h 8", "(1, 2, 3, 4, 5, 6, 7, 8)");
        value("val a = 1 val b = 2 val c = 3 val d = 4 val e = 5 val f = 6 val g = 7 fun h x = fn y => (g, f, e, d, c, b, a, x, y) in h 8 9",
            "(7, 6, 5, 4, 3, 2, 1, 8, 9)");
        value("val a = 1 val b = 2 val c = 3 val d = 4 val e = 5 val f = 6 fun h x y z = (a, b, c, d, e, f, x, y, z) in h 7 8 9", "(1, 2, 3, 4, 5, 6, 7, 8, 9)");
        value("fun f a b c d e g h = (h, g, e, d, c, b, a) in f 1 2 3 4 5 6 7", "(7, 6, 5, 4, 3, 2, 1)");
        value("val a = 1 val b = 2 val c = 3 val d = 4 fun f x = (a; b; c; d; g x) and g 0 = (d, c, b, a) | g x = f (x - 1) in (f 1, g 2)",
            "((4, 3, 2, 1), (4, 3, 2, 1))");
        value("fun f a b c d e = let fun g x = (a, b, x) and h x = (c, d, e, x) and i x = (g x, h x) in i end in f 1 2 3 4 5 6", "((1, 2, 6), (3, 4, 5, 6))");
        value("in (fn print => print + 1) 2", "3");
        value("val put = fn x => x + 1 in put 4", "5");
        // What is known ahead takes its two words off and puts one there, whatever is below.
        value("in (1, ~ (1 + 1), not true, size \"ab\", str 3, chr 65, sub (\"ab\", 1), many (), !(ref 5), ref 6, print \"\", 7)",
            "(1, ~2, false, 2, \"3\", \"A\", 98, 0, 5, ref 6, (), 7)");
        value("in (3 + ~ (1 + 1), 3 - size \"ab\", \"a\" ^ str 5 ^ chr 66, 10 + !(ref 5), 1 + sub (\"ab\", 0) * 2)", "(1, 1, \"a5B\", 15, 195)");
        value("datatype t = A of int | B of t in [A 1, B (A 2), A (1 + 2)]", "[A 1, B (A 2), A 3]");
    }

    /** Patterns in one another: each part is looked at where it is. */
    private static void nestedPatterns() {
        value("in case ((1, 2), (3, (4, 5), 6), 7) of ((a, b), (c, (d, e), f), g) => [a, b, c, d, e, f, g]", "[1, 2, 3, 4, 5, 6, 7]");
        value("in case (1, 2, 3, 4, 5, 6, 7, 8, 9, 10, 11, 12) of (a, b, c, d, e, f, g, h, i, j, k, l) => [l, k, j, i, h, g, f, e, d, c, b, a]",
            "[12, 11, 10, 9, 8, 7, 6, 5, 4, 3, 2, 1]");
        value("in case ([1, 2], [3, 4, 5]) of ([a, b], c :: d :: e) => (a, b, c, d, e) | _ => (0, 0, 0, 0, nil)", "(1, 2, 3, 4, [5])");
        value("in case [(1, 2), (3, 4)] of [(a, b), (c, d)] => a + 10 * b + 100 * c + 1000 * d | _ => 0", "4321");
        value("in case [[1, 2], [3]] of (a :: b) :: c :: nil => (a, b, c) | _ => (0, nil, nil)", "(1, [2], [3])");
        value("in case [[1, 2], [3], []] of [[a, b], [c], []] => (a, b, c) | _ => (0, 0, 0)", "(1, 2, 3)");
        String ahead = "datatype t = A of int * t * int list | B of t | C ";
        value(ahead + "in case A (1, B (A (2, C, [3])), [4, 5]) of A (a, B (A (b, C, [c])), [d, e]) => [a, b, c, d, e] | _ => nil", "[1, 2, 3, 4, 5]");
        value(ahead + "in case A (1, B (A (2, C, [3])), [4, 5]) of A (_, B (A (_, B _, _)), _) => 1 | A (_, B C, _) => 2 | A (_, B (A (x, C, _)), y :: _) => x + y | _ => 4", "6");
        value("in case ((1, 2), [3, 4]) of (x as (a, b), y as c :: (z as [d])) => (x, a, b, y, c, z, d) | _ => ((0, 0), 0, 0, nil, 0, nil, 0)",
            "((1, 2), 1, 2, [3, 4], 3, [4], 4)");
        value("fun f (a, b) [c, d] (e :: g) = (a, b, c, d, e, g) | f _ _ _ = (0, 0, 0, 0, 0, nil) in (f (1, 2) [3, 4] [5, 6], f (1, 2) [3] [4])",
            "((1, 2, 3, 4, 5, [6]), (0, 0, 0, 0, 0, []))");
        value("val ((a, b), [c, (d, e)]) = ((1, 2), [(3, 4), (5, 6)]) in (a, b, c, d, e)", "(1, 2, (3, 4), 5, 6)");
        value("val (a, (b, c), d) = (1, (2, 3), 4) val [e, f] = [a, d] in (a, b, c, d, e, f)", "(1, 2, 3, 4, 1, 4)");
        value("fun f ((1, x), _) = x | f ((_, 2), (y, _)) = y | f ((x, _), (_, y)) = x * y in (f ((1, 5), (6, 7)), f ((3, 2), (6, 7)), f ((3, 4), (6, 7)))", "(5, 6, 21)");
        value("exception E of (int * int) * int list in (raise E ((1, 2), [3])) handle E ((x, 3), _) => x | E ((_, x), [y]) => x * 10 + y", "23");
    }

    /** "int has 31 bits and wraps; div and mod are rounded down (mod has the divisor's sign)". */
    private static void numbers() {
        value("in 1073741823 + 1", "~1073741824");
        value("in ~1073741824 - 1", "1073741823");
        value("in 1073741823 + 1073741823", "~2");
        value("in ~1073741824 + ~1073741824", "0");
        value("in ~ ~1073741824", "~1073741824");
        value("in 0 - ~1073741824", "~1073741824");
        value("in ~1073741824 * ~1", "~1073741824");
        value("in ~1073741824 div ~1", "~1073741824");
        value("in ~1073741824 mod ~1", "0");
        value("in 32768 * 32768", "~1073741824");
        value("in 65536 * 32768", "0");
        value("in 46341 * 46341", "4633");
        value("in 1073741823 * 1073741823", "1");
        value("in 1073741823 * 2", "~2");
        value("in 123456789 * 987654321 mod 1000", "" + Math.floorMod((int) (123456789L * 987654321L) << 1 >> 1, 1000));
        for (int a : new int[] {7, -7, 6, -6, 0, 1, -1, 1073741823, -1073741824}) {
            for (int b : new int[] {2, -2, 3, -3, 7, -7, 1, -1, 1073741823, -1073741824}) {
                int quotient = Math.floorDiv(a, b) << 1 >> 1;
                String exp = written(a) + " div " + written(b) + ", " + written(a) + " mod " + written(b);
                value("in (" + exp + ")", "(" + written(quotient) + ", " + written(Math.floorMod(a, b)) + ")");
                String compared = "";
                for (String sign : "= <> < > <= >=".split(" ")) compared += (compared.isEmpty() ? "" : ", ") + written(a) + " " + sign + " " + written(b);
                String due = (a == b) + ", " + (a != b) + ", " + (a < b) + ", " + (a > b) + ", " + (a <= b) + ", " + (a >= b);
                value("in (" + compared + ")", "(" + due + ")");
            }
        }
    }

    private static String written(int n) {
        return n < 0 ? "~" + -(long) n : "" + n;
    }

    /** "PATs are tried from the left, rules in order: none: Match; of val: Bind." */
    private static void matches() {
        value("in case 1 of _ => 1 | 1 => 2", "1");
        value("in case 1 of 1 => 1 | 1 => 2", "1");
        value("in case 3 of 1 => 1 | 2 => 2 | x => x * 10", "30");
        value("in case (1, 2) of (2, x) => x | (x, 1) => x | (x, y) => x + y", "3");
        value("in (fn 1 => 1 | _ => 2) 5", "2");
        value("fun f 1 2 = 1 | f 1 _ = 2 | f _ 2 = 3 | f _ _ = 4 in (f 1 2, f 1 1, f 2 2, f 3 3)", "(1, 2, 3, 4)");
        value("in (fn true => 1 | false => 2) (1 > 2)", "2");
        value("in case ~5 of 5 => 1 | ~5 => 2 | _ => 3", "2");
        value("in case ~1073741824 of 0 => 1 | ~1073741824 => 2 | _ => 3", "2");
        value("datatype t = A of int | B of int | C in case [B 1, A 2, C] of [A _, _, _] => 1 | [B 2, _, _] => 2 | [B 1, B _, _] => 3 | [B x, A y, C] => x + y * 10 | _ => 5", "21");
        value("in case [1, 2] of [] => 0 | [_] => 1 | [x, y] => x + y | _ => 3", "3");
        value("in case [1, 2] of x :: [] => 1 | x :: (y as _ :: z) => (x; 2) | nil => 3", "2");
        value("exception E of int exception F of int in (raise F 3) handle E x => x | F 2 => 5 | F x => x * 7", "21");
        raised("in case 1 of 2 => 3", "Match");
        raised("in (fn 1 => 2) 3", "Match");
        raised("fun f 1 = 2 in f 3", "Match");
        raised("fun f 1 1 = 2 | f 2 2 = 3 in f 1 2", "Match");
        raised("val rec f = fn 0 => 1 in f 1", "Match");
        raised("in case nil of x :: y => x", "Match");
        raised("in case [1] of [] => 2", "Match");
        raised("in case true of false => 1", "Match");
        raised("val 1 = 2 in 3", "Bind");
        raised("val x :: y = nil in x", "Bind");
        raised("val [x] = [1, 2] in x", "Bind");
        raised("val (1, x) = (2, 3) in x", "Bind");
        raised("datatype t = A | B of int val B x = A in x", "Bind");
        raised("in let val true = false in 1 end", "Bind");
        value("in (let val 1 = 2 in 3 end) handle Bind => 4", "4");
        value("in (case 1 of 2 => 3) handle Match => 4", "4");
        // All the ATPATs are matched when the last argument has come.
        value("fun f 1 x = x in (f 2; 3)", "3");
        raised("fun f 1 x = x in f 2 3", "Match");
        // None of a handle's rules: it is raised on, not Match.
        raised("in (raise Div) handle Match => 1", "Div");
        raised("exception E of int in (raise E 5) handle E 4 => 1", "E 5");
        raised("in (case 1 of 2 => 3) handle Div => 1", "Match");
    }

    /** "div and mod by 0: Div; sub out of the string, given out of the INPUT: Subscript; chr out of 0 .. 255: Chr". */
    private static void raisers() {
        raised("in 1 div 0", "Div");
        raised("in 1 mod 0", "Div");
        raised("in 0 div 0", "Div");
        raised("in ~1073741824 div (1 - 1)", "Div");
        value("in (1 div 0) handle Div => 7", "7");
        value("in (1 mod 0) handle Div => 7", "7");
        value("in (sub (\"abc\", 0), sub (\"abc\", 1), sub (\"abc\", 2))", "(97, 98, 99)");
        value("in (sub (\"abcde\", 3), sub (\"abcde\", 4), sub (\"\\255\\000\", 0), sub (\"\\255\\000\", 1))", "(100, 101, 255, 0)");
        for (String index : "3 4 ~1 1073741823 ~1073741824".split(" ")) raised("in sub (\"abc\", " + index + ")", "Subscript");
        raised("in sub (\"\", 0)", "Subscript");
        raised("in sub (\"abcd\", 4)", "Subscript");
        raised("in sub (\"abcde\", 5)", "Subscript");
        value("in sub (\"a\", 1) handle Subscript => 5", "5");
        value("in (chr 0, chr 255, chr 65, size (chr 0))", "(\"\\000\", \"\\255\", \"A\", 1)");
        for (String code : "~1 256 1073741823 ~1073741824 257".split(" ")) raised("in chr " + code, "Chr");
        value("in chr 256 handle Chr => \"\"", "\"\"");
        for (int n : new int[] {0, 1, 2, 99, 100}) {
            House house = houseFor("in (given 0, given 1, given 2, given 99, many ())", 150);
            house.take();
            for (int k = 0; k < n; k++) house.give(k * 10);
            for (int index : new int[] {-1, 0, 1, n - 1, n, 100, 1073741823, -1073741824}) {
                same("read", house.read("in given (" + written(index) + ")"), true);
                boolean has = index >= 0 && index < n;
                for (int how : hows()) {
                    same("given " + index + " of " + n + ", how " + how, house.run(how, 5, 16), has ? 0 : 1);
                }
                told("given " + index + " of " + n, house, 1, has ? "" + index * 10 : "Subscript", 20);
            }
            same("read", house.read("in many ()"), true);
            for (int how : hows()) {
                house.run(how, 5, 16);
                told("many of " + n + ", how " + how, house, 1, "" + n, 10);
            }
            house.take();
        }
    }

    /** "raise goes to the innermost handle that is open in what is under way, and from rule to rule; none of its rules: it is raised on." */
    private static void raising() {
        raised("in raise Div", "Div");
        raised("exception E of int in raise E 3", "E 3");
        raised("exception E in raise E", "E");
        value("in (raise Div) handle Div => 1", "1");
        value("in ((raise Div) handle Match => 1) handle Div => 2", "2");
        value("in ((raise Div) handle Div => 1) handle Div => 2", "1");
        value("in ((raise Div) handle Div => raise Match) handle Div => 2 | Match => 3", "3");
        raised("in (raise Div) handle Div => raise Match | Match => 3", "Match");
        value("in (raise Div) handle Match => 1 | Bind => 2 | Div => 3 | _ => 4", "3");
        value("in (raise Div) handle Match => 1 | _ => 2 | Div => 3", "2");
        value("fun f x = raise Div in (f 1) handle Div => 5", "5");
        value("fun f x = x div 0 handle Match => 6 in (f 1) handle Div => 5", "5");
        value("fun f x = x div 0 handle Div => 6 in (f 1) handle Div => 5", "6");
        value("fun f 0 = raise Div | f n = f (n - 1) + 1 in (f 20) handle Div => 5", "5");
        value("fun f 0 = raise Div | f n = (f (n - 1) handle Match => 1) + 1 in (f 20) handle Div => 5", "5");
        value("fun f 0 = raise Div | f n = (f (n - 1) handle Div => 1) + 1 in f 20", "21");
        // A handle is over when what it handles is worked out, and in its own rules.
        raised("in (1 handle Div => 2) + 1 div 0", "Div");
        raised("in case (1 handle _ => 2) of x => raise Div", "Div");
        raised("fun f g = g () in f (fn () => raise Div handle _ => Match)", "Div");
        value("fun f g = g () in f (fn () => (raise Div) handle _ => 5)", "5");
        value("val f = (fn x => raise Div) handle _ => fn x => 2 in (f 1) handle Div => 3", "3");
        value("val x = (raise Div) handle y => y in (raise x) handle Div => 7", "7");
        value("in ((1 handle _ => 2) + (raise Div)) handle Div => 5", "5");
        value("in (((1 handle _ => 2); (2 handle _ => 3); raise Div) handle Div => raise Match) handle Match => 6", "6");
        value("fun f n = (if n = 0 then raise Div else f (n - 1) handle Match => 1) handle Bind => 2 in (f 5) handle Div => 7", "7");
        value("fun f 0 = 0 | f n = (f (n - 1) handle Div => 100) + 1 in (f 5, (f 3; raise Div) handle Div => 8)", "(5, 8)");
        // The exceptions are what they are, whoever made them.
        value("exception E exception F in [(raise E) handle E => 1 | F => 2, (raise F) handle E => 1 | F => 2]", "[1, 2]");
        value("exception E of int in (raise E 1) handle E 2 => 20 | E x => x + 30", "31");
        value("exception E of int * string in (raise E (1, \"a\")) handle E (x, y) => size y + x", "2");
        value("fun f x = raise x in [f Div handle Div => 1 | Match => 2, f Match handle Div => 1 | Match => 2]", "[1, 2]");
        raised("in raise (raise Div)", "Div");
        raised("in (1, raise Div, raise Match)", "Div");
        raised("in (raise Div) + (raise Match)", "Div");
        raised("in [1, 2 div 0, raise Match]", "Div");
        raised("val x = raise Div in 1", "Div");
        raised("val x = 1 val y = x div 0 val z = raise Match in 1", "Div");
        // What has been done till then stays done.
        value("val r = ref 0 in ((r := 1; raise Div; r := 2) handle _ => (); !r)", "1");
        puts("in (put 1; print \"a\"; raise Div; put 2)", "1\na");
    }

    /** "print puts a string's bytes, put a number as it is written and a byte 10 to the OUTPUT; str n the number as written". */
    private static void output() {
        puts("in print \"\"", "");
        puts("in print \"abc\\n\\t\\\"\\\\\\000\\255\"", "abc\n\t\"\\\u0000\u00ff");
        for (int n : new int[] {0, 1, -1, 9, 10, -10, 99, 100, 12345, -98765, 1073741823, -1073741824, 999999999, 1000000000, -1000000000}) {
            puts("in put (" + written(n) + ")", written(n) + "\n");
            value("in str (" + written(n) + ")", "\"" + written(n) + "\"");
            value("in size (str (" + written(n) + "))", "" + written(n).length());
            puts("in print (str (" + written(n) + "))", written(n));
        }
        puts("in (print \"a\"; print \"bc\"; put 1; print \"d\")", "abc1\nd");
        value("in \"ab\" ^ \"\" ^ \"cde\" ^ str 12 ^ chr 33", "\"abcde12!\"");
        value("in size (\"ab\" ^ \"cde\")", "5");
        value("in (size \"\", size \"a\", size \"abcd\", size \"abcde\")", "(0, 1, 4, 5)");
        value("in (not true, not false)", "(false, true)");
    }

    /** "A STEP is an application .., each time that a while's condition is come to, and a COLLECTION (ahead of it)." */
    private static void countedSteps() {
        steps("in 1 + 2 * 3", 0);
        steps("in (1, [2, 3], \"a\", 1 :: nil, \"a\" ^ \"b\")", 0);
        steps("in fn x => x", 0);
        steps("fun f x = x and g x = x in 1", 0);
        steps("in (fn x => x) 1", 1);
        steps("in not true", 1);
        steps("in print \"\"", 1);
        steps("in ~ 1", 1);
        steps("in !(ref 1)", 2);
        steps("datatype t = A of int in A 1", 1);
        steps("datatype t = A of int exception E of t in E (A 1)", 2);
        steps("datatype t = A of int in case A 1 of A x => x", 1);
        steps("in ref 1 := 2", 1);
        steps("fun f a b c = 1 in f", 0);
        steps("fun f a b c = 1 in f 1", 1);
        steps("fun f a b c = 1 in f 1 2", 2);
        steps("fun f a b c = 1 in f 1 2 3", 3);
        steps("in (fn x => fn y => 1) 2 3", 2);
        steps("in while false do 1", 1);
        steps("val r = ref 0 in while !r < 5 do r := !r + 1", 1 + 6 + 6 + 5);
        steps("in if true andalso 1 < 2 then 1 else 2", 0);
        steps("in case 1 of 2 => 3 | 4 => 5 | _ => 6", 0);
        steps("in (raise Div) handle Match => 1 | _ => 2", 0);
        steps("in let val x = 1 in x end", 0);
        steps("fun f 0 = 0 | f n = f (n - 1) in f 50", 51);
        steps("in many ()", 1);
        steps("in chr ~1 handle _ => \"\"", 1);
        steps("in given 0 handle _ => 0", 1);
        steps("in 1 div 0 handle _ => 2", 0);
        steps("in (fn x => x) (fn x => x) ((fn x => x) 1)", 3);
    }

    /** "2 STEPS: there would be more than allowed": each STEP is ahead of what it is for. */
    private static void stepsAllowed() {
        String prints = "in (print \"a\"; print \"b\"; print \"c\"; print \"d\")";
        House house = program(prints, 100);
        if (house == null) return;
        for (int how : hows()) {
            for (int n = 1; n <= 5; n++) {
                same("end by " + n, house.run(how, n, 16), n < 4 ? 2 : 0);
                same("steps by " + n, house.seen(0), Math.min(n, 4));
                RunningTest.output("output by " + n, house, "abcd".substring(0, Math.min(n, 4)), 8);
            }
        }
        ends("in (fn x => x) 1", 1, 16, "0 1 0 2 6");
        ends("in (fn x => (fn y => y) x) 1", 1, 16, "2 1 0 4 7");
        ends("in (fn x => (fn y => y) x) 1", 2, 16, "0 2 0 4 7");
        ends("val r = ref 1 in while true do r := 2", 1, 16, "2 1 0 2 2");
        ends("val r = ref 1 in while true do r := 2", STEPS_MOST, 16, "2 20000 0 2 4");
        ends("in while true do 1", 5, 16, "2 5 0 0 1");
        ends("in while false do 1", 1, 16, "0 1 0 0 1");
        ends("in not (not true)", 1, 16, "2 1 0 0 3");
        ends("datatype t = A of t | B in A (A B)", 1, 16, "2 1 0 2 3");
        ends("fun f n = f n in f 1", 20000, 16, "2 20000 0 2 8");
        ends("fun f n = f n in f 1", 1, 16, "2 1 0 2 8");
        // "and a COLLECTION (ahead of it)".
        ends("in (\"" + times("a", 60) + "\"; \"\")", 1, 16, "0 1 1 1 1");
        ends("in (\"" + times("a", 60) + "\"; ref 1)", 1, 16, "2 1 0 16 2");
        ends("in (\"" + times("a", 60) + "\"; ref 1)", 2, 16, "0 2 1 2 2");
        ends("in (\"" + times("a", 60) + "\"; \"\"; \"" + times("a", 60) + "\")", 1, 16, "2 1 1 1 1");
    }

    /** "Of several at one time the least." */
    private static void least() {
        // A step too many where the pile would be too great: 2.
        String deep = "fun f n = n + f n in f 1";
        ends(deep, 1000, 16, "4 1000 0 2 6000");
        ends(deep, 999, 16, "2 999 0 2 5997");
        // A collection that no step is left for where the heap is too small: 2.
        ends("in \"" + times("a", 61) + "\"", 1, 16, "3 1 1 0 0");
        ends("in (not true; \"" + times("a", 61) + "\")", 1, 16, "2 1 0 0 2");
        ends("in (not true; \"" + times("a", 61) + "\")", 2, 16, "3 2 1 0 2");
        // At the call with 0 there are 5,999 words, and one for what is to be applied; the heap of 16 is full.
        String begin = "val t = (1, 2, 3, 4, 5, 6, 7, 8, 9, 10, 11, 12, 13) val x = 1 val y = 2 fun f 0 = ";
        String end = " | f n = 1 + f (n - 1) in f 998";
        for (String made : new String[] {"size \"abc\"", "size \"\""}) {
            ends(begin + made + end, 998, 16, "2 998 0 16 5998");
            ends(begin + made + end, 999, 16, "2 999 0 16 6000");
            ends(begin + made + end, 1000, 16, "3 1000 1 16 6000");
            endsBy(begin + made + end, 999, 20, "4 999 0 6000");
        }
        // A function likewise.
        String functions = begin.replace("f 0 = ", "f 0 = (fn g => 1) (fn x => x)");
        ends(functions + end, 999, 17, "2 999 0 16 5999");
        ends(functions + end, 1000, 17, "3 1000 1 16 5999");
    }

    /** How it ends, then steps, collections and pile. */
    private static void endsBy(String text, int steps, int heap, String due) {
        House house = program(text, 15);
        if (house == null) return;
        for (int how : hows()) {
            String got = house.run(how, steps, heap) + " " + house.seen(0) + " " + house.seen(1) + " " + house.seen(3);
            same("end, how " + how + ", of " + brief(text), got, due);
        }
    }

    private static void runs(String text, int steps, int heap, String due) {
        House house = program(text, 300);
        if (house == null) return;
        house.take();
        house.give(5);
        house.give(-3);
        house.give(9);
        for (int how : hows()) {
            StringBuilder s = new StringBuilder();
            int end = house.run(how, steps, heap);
            String value = STATE;
            if (end < 2) {
                int size = house.tell(1);
                value = "";
                for (int k = 0; k < Math.min(size, 60); k++) value += (char) house.resultAt(k);
            }
            s.append(end).append(" ").append(value);
            for (int k = 0; k < 5; k++) s.append(" ").append(house.seen(k));
            if (house.seen(4) > 0) s.append(" ");
            for (int k = 0; k < house.seen(4); k++) s.append((char) house.byteAt(k));
            same("how " + how + " of " + text, s.toString(), due);
        }
        house.take();
    }

    /** Programs with all that is told and seen of them: end, value, steps, collections, words, pile, bytes put out. */
    private static void whole() {
        runs("in 1", 1, 16, "0 1 0 0 0 1 0");
        runs("in 1 + 2", 1, 16, "0 3 0 0 0 2 0");
        runs("in (1, \"abcde\", ref 2)", 10, 100, "0 (1, \"abcde\", ref 2) 1 0 9 4 0");
        runs("in [1, 2]", 10, 100, "0 [1, 2] 0 0 10 3 0");
        runs("in \"\"", 10, 100, "0 \"\" 0 0 1 1 0");
        runs("val x = 5 in x * x + 1", 10, 100, "0 26 0 0 0 4 0");
        runs("fun f x = x + 1 in f 3", 10, 100, "0 4 1 0 2 8 0");
        runs("in 1 div 0", 10, 100, "1 Div 0 0 0 2 0");
        runs("in raise Match", 10, 100, "1 Match 0 0 0 1 0");
        runs("val x :: y = [] in x", 10, 100, "1 Bind 0 0 0 1 0");
        runs("fun f 1 = 2 in f 2", 10, 100, "1 Match 1 0 2 5 0");
        runs("in case 1 of 2 => 3", 10, 100, "1 Match 0 0 0 1 0");
        runs("in case (1, 2) of (1, 3) => 0 | (x, y) => x + y", 10, 100, "0 3 0 0 3 5 0");
        runs("fun f n = n + f (n + 1) in f 0", 300, 120, "2 IllegalStateException 300 0 2 1804 0");
        runs("fun f n = if n = 0 then 7 else f (n - 1) in f 300", 1000, 16, "0 7 301 0 2 9 0");
        runs("fun f n = n + f (n + 1) in f 0", 20000, 16, "4 IllegalStateException 1000 0 2 6000 0");
        runs("fun f a b c = a + b + c in f 1 2 3", 10, 100, "0 6 3 0 9 10 0");
        runs("fun f a b = if a = 0 then b else f (a - 1) b in f 2 5", 10, 100, "0 5 6 0 14 12 0");
        runs("in (1 handle Div => 2) + 3", 10, 100, "0 4 0 0 0 4 0");
        runs("exception E of int in (raise E 3) handle E 4 => 1 | Div => 2", 10, 100, "1 E 3 1 0 2 5 0");
        runs("exception E of int in ((raise E 3) handle Div => 2) handle E x => x * 2", 10, 100, "0 6 1 0 2 8 0");
        runs("in (put 5; put ~7; print \"x\"; many ())", 10, 100, "0 3 4 0 2 2 6 5\n~7\nx");
        runs("in given 3", 10, 100, "1 Subscript 1 0 0 2 0");
        runs("in (given 0, given 1)", 10, 100, "0 (5, ~3) 2 0 3 3 0");
        runs("val r = ref 0 in (while !r < 3 do r := !r + 1; !r)", 100, 100, "0 3 13 0 2 5 0");
        runs("val r = ref 0 in while true do r := 1", 7, 100, "2 IllegalStateException 7 0 2 4 0");
        runs("in (fn x => (fn y => x + y)) 1 2", 10, 100, "0 3 2 0 5 7 0");
        runs("fun even 0 = true | even n = odd (n - 1) and odd 0 = false | odd n = even (n - 1) in even 10", 100, 100, "0 true 11 0 6 10 0");
        runs("in let val a = 1 val b = 2 in a + b end", 10, 100, "0 3 0 0 0 6 0");
        runs("fun loop n = (ref n; if n = 0 then 9 else loop (n - 1)) in loop 20", 100, 16, "0 9 44 2 16 9 0");
        runs("in (1, 2, 3, 4, 5, 6, 7, 8, 9, 10, 11, 12, 13, 14, 15)", 10, 16, "0 (1, 2, 3, 4, 5, 6, 7, 8, 9, 10, 11, 12, 13, 14, 15) 0 0 16 15 0");
        runs("in (1, 2, 3, 4, 5, 6, 7, 8, 9, 10, 11, 12, 13, 14, 15, 16)", 10, 16, "3 IllegalStateException 1 1 0 16 0");
        runs("val a = (1, 2, 3) in (ref 1; ref 2; (4, 5, 6, 7); (1, 2, 3, 4, 5, 6, 7, 8, 9))", 10, 16, "0 (1, 2, 3, 4, 5, 6, 7, 8, 9) 3 1 14 11 0");
        runs("val a = (1, 2, 3) in (ref 1; ref 2; (4, 5, 6, 7); (1, 2, 3, 4, 5, 6, 7, 8, 9))", 2, 16, "2 IllegalStateException 2 0 13 11 0");
    }

    public static void main(String[] args) {
        order();
        values();
        functions();
        nestedPatterns();
        numbers();
        matches();
        raisers();
        raising();
        output();
        countedSteps();
        stepsAllowed();
        least();
        whole();
        finish("running");
    }
}
