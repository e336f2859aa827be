/** Part D of the document: how many words the PILE has, what a call in TAIL position takes from it, and its end. */
public final class PileTest extends Houses {
    /** "Each EXP that is worked out puts its value there as one word (constants, too), which stays till what it is for is done". */
    private static void exps() {
        for (String exp : "1|true|()|nil|\"abc\"|print|Div|(1)|((()))|~|[]|fn x => x".split("\\|")) pile("in " + exp, 1);
        pile("in 1 + 2", 2);
        pile("in 1 + 2 + 3", 2);
        pile("in 1 + (2 + 3)", 3);
        pile("in 1 + (2 + (3 + 4))", 4);
        for (String sign : "- * div mod = <> < > <= >= ::".split(" ")) {
            if (!sign.equals("::")) pile("in 1 " + sign + " 2", 2);
            else pile("in 1 :: nil", 2);
        }
        pile("in \"a\" ^ \"b\"", 2);
        pile("in ref 1 := 2", 2);
        pile("in (1, 2)", 2);
        for (int n = 2; n <= 30; n++) pile("in (1" + times(", 1", n - 1) + ")", n);
        // The elements, and nil behind them.
        for (int n = 1; n <= 9; n++) pile("in [1" + times(", 1", n - 1) + "]", n + 1);
        pile("in [1, 2 + (3 + 4), 5]", 4);
        pile("in [1, 2, 2 + (3 + 4)]", 5);
        pile("in 1 :: 2 :: 3 :: nil", 4);
        pile("in not true", 2);
        pile("in not (not (not true))", 4);
        pile("in print \"a\"", 2);
        pile("datatype t = A of int in A 1", 2);
        pile("in if true then 1 else 2", 1);
        pile("in if 1 < 2 then 1 else 2", 2);
        pile("in if false then 1 + 2 else 3", 1);
        pile("in while false do 1 + 2", 1);
        pile("val r = ref true in while !r do r := false", 4);
        pile("in (1; 2; 3)", 1);
        pile("in (1 + 2; 3)", 2);
        pile("in let in 1; 2 end", 1);
        pile("in true andalso true", 1);
        pile("in true andalso 1 < 2", 2);
        pile("in false orelse false orelse 1 < 2", 2);
        pile("in 1 < 2 orelse 1 + (2 + 3) < 4", 2);
        pile("in (1 : int)", 1);
        pile("in (raise Div; 1) handle _ => 2", 4);
    }

    /** "the value that a PAT is matched with .., and above it, when all of it .. has matched, the PAT's variables from the left ..". */
    private static void bound() {
        pile("in case 1 of _ => 2", 2);
        pile("in case 1 of x => 2", 3);
        pile("in case 1 of x => x + x", 4);
        pile("in case (1, 2) of (x, y) => 1", 4);
        pile("in case (1, 2) of p as (x, y) => 1", 5);
        pile("in case [1, 2] of [x, y] => 1 | _ => 2", 4);
        pile("in case [1, 2, 3] of [x, y] => 1 | z => 2", 4);
        pile("in case [1, 2, 3] of [x, y] => 1 | x :: y :: z => 2", 5);
        pile("in case [1, 2, 3] of x :: y :: [] => 1 | _ => 2", 4);
        // Only when all has matched do the variables come.
        pile("in case (1, (2, (3, 4))) of (a, (b, (c, 5))) => 1 | _ => 2", 4);
        pile("in case (1, 2) of (x, 1) => 1 | (1, y) => 2", 3);
        pile("in case 1 of x => case 2 of y => 3", 5);
        pile("in (case 1 of x => x) + 1", 3);
        pile("in 1 + (case 1 of x => x)", 4);
        pile("val x = 1 in 2", 3);
        pile("val _ = 1 in 2", 2);
        pile("val x = 1 val y = 2 in 3", 5);
        pile("val (x, y) = (1, 2) in 3", 4);
        pile("val z as (x, y) = (1, 2) in 3", 5);
        pile("val x :: _ = [1, 2, 3, 4, 5, 6, 7] in 3", 8);
        pile("in let val x = 1 in 2 end", 3);
        pile("in let val x = 1 in 2 end + 3", 3);
        pile("in 3 + let val x = 1 in 2 end", 4);
        pile("in let val x = 1 val y = 2 in 3 end + let val z = 4 in 5 end", 5);
        pile("val rec f = fn x => x in 1", 2);
        pile("fun f x = x in 1", 2);
        pile("fun f x = x and g x = x and h x = x in 1", 4);
        pile("in let fun f x = x and g x = x in 1 end + 2", 3);
        pile("in let fun f x = x in 1 end + 2", 2);
        pile("in let val rec f = fn x => x in 1 end + 2", 2);
        pile("in let val _ = 1 in 2 end + 3", 2);
        pile("in let val _ = 1 val _ = 2 in 3 end + 4", 3);
        pile("in let in 1 end + 2", 2);
        pile("in (let val _ = 1 in 2 end, let val _ = 1 in 2 end, let val _ = 1 in 2 end)", 4);
        pile("in [not true, not true, not true, not true]", 5);
        pile("datatype t = A | B of int exception E in 1", 1);
        pile("in 1 handle _ => 2", 4);
        pile("in 1 + 2 handle _ => 2", 5);
        pile("in (1 handle _ => 2) + 3", 4);
        pile("in 3 + (1 handle _ => 2)", 5);
        pile("in (1 handle _ => 2) handle _ => 3", 7);
        pile("in raise Div handle x => x", 4);
        pile("in (raise Div) handle x => 1 + (2 + (3 + 4))", 6);
        pile("in (raise Div) handle _ => 1 + (2 + (3 + 4))", 5);
        pile("exception E of int * int in (raise E (1, 2)) handle E (x, y) => 1 + (2 + 3)", 6);
        // What was on the pile when the handle was opened stays, what came later goes.
        pile("in 1 + (2 + ((raise Div) handle _ => 3))", 6);
        pile("in (1 + (2 + (3 + (4 + (raise Div))))) handle _ => 1 + (2 + (3 + (4 + 5)))", 8);
    }

    /** "A call of an object has 4 words in all till it is done: its function, its argument, and 2 more". */
    private static void calls() {
        pile("in (fn _ => 1) 2", 5);
        pile("in (fn x => 1) 2", 6);
        pile("in (fn x => x + x) 2", 7);
        pile("in (fn (x, y) => 1) (2, 3)", 7);
        pile("in (fn _ => 1) 2 + 3", 5);
        pile("in 3 + (fn _ => 1) 2", 6);
        pile("in (fn _ => fn _ => 1) 2 3", 5);
        pile("in (fn _ => (fn _ => 1) 2 + 0) 3", 9);
        pile("in (fn _ => (fn _ => 1)) 2 ((fn _ => 1) 2)", 6);
        pile("fun f _ = 1 in f 2", 6);
        pile("fun f x = 1 in f 2", 7);
        pile("val rec f = fn _ => 1 in f 2", 6);
        pile("fun f 0 = 0 | f n = 1 + f (n - 1) in f 9", 1 + 9 * 6 + 4 + 1);
        pile("fun f n = if n = 0 then 0 else 1 + f (n - 1) in f 9", 1 + 9 * 6 + 7);
        pile("fun f n = if n = 0 then 0 else 1 + f (n - 1) in f 99", 1 + 99 * 6 + 7);
        // All is gone when the call is done.
        pile("fun f n = 1 + (2 + (3 + n)) in f 1 + f 2 + f 3", 1 + 1 + 4 + 1 + 4);
        // Known ahead or a constructor: its function and its argument, no more.
        pile("fun f x = not x in f true", 1 + 4 + 1 + 2);
        pile("datatype t = A of int fun f x = A x in f 1", 1 + 4 + 1 + 2);
    }

    /** "Clauses of more ATPATs ..: a word above its call's four, then the call is done"; "the last one matches all arguments". */
    private static void moreAtpats() {
        pile("fun f x y = 1 in f", 2);
        pile("fun f x y = 1 in f 1", 1 + 4 + 1);
        pile("fun f _ _ = 1 in f 1 2", 1 + 4 + 1);
        pile("fun f x y = 1 in f 1 2", 1 + 4 + 2 + 1);
        pile("fun f x y z = 1 in f 1 2", 1 + 4 + 1);
        pile("fun f x y z = 1 in f 1 2 3", 1 + 4 + 3 + 1);
        pile("fun f _ _ _ = 1 in f 1 2 3", 1 + 4 + 1);
        pile("fun f (a, b) (c, d) = 1 in f (1, 2) (3, 4)", 1 + 4 + 4 + 1);
        pile("fun f x y = 1 in f 1 (2 + (3 + (4 + 5)))", 1 + 4 + 2 + 1);
        pile("fun f x y = 1 in f 1 (2 + (3 + (4 + (5 + (6 + (7 + 8))))))", 1 + 1 + 7);
        pile("fun f 1 x = 1 | f y z = 2 in f 2 3", 1 + 4 + 2 + 1);
        pile("fun f" + times(" _", 12) + " = 1 in f" + times(" 1", 12), 6);
        pile("fun f a b c d e g h i j k l m = 1 in f" + times(" 1", 12), 1 + 4 + 12 + 1);
    }

    /** A function that calls itself from its body, ten times and sixty times: whether the pile stays as it was, or grows. */
    private static void tail(boolean is, String body) {
        String text = "val r = ref 0 fun same x = x fun f n = " + body + " in (f ";
        int few = greatest(text + "10; ())");
        int many = greatest(text + "60; ())");
        same("pile stays in " + body + ": " + few + " and " + many, many == few, is);
    }

    /** The greatest pile, which is the same by all three ways. */
    private static int greatest(String text) {
        House house = program(text, 9);
        if (house == null) return -1;
        int one = -1;
        for (int how : hows()) {
            same("end, how " + how + ", of " + text, house.run(how, STEPS_MOST, HEAP_MOST), 0);
            int other = house.seen(3);
            if (one >= 0) same("pile, how " + how + ", of " + text, other, one);
            one = other;
        }
        return one;
    }

    /** "A call in TAIL position (the body of a fn or clause; then so branches of if, rules of case and handle, ..)". */
    private static void tails() {
        tail(true, "if n = 0 then 0 else f (n - 1)");
        tail(true, "if n <> 0 then f (n - 1) else 0");
        tail(true, "case n of 0 => 0 | _ => f (n - 1)");
        tail(true, "case n of 0 => 0 | m => case m of 0 => 1 | k => f (k - 1)");
        tail(true, "if n = 0 then 0 else (raise Div) handle _ => f (n - 1)");
        tail(true, "if n = 0 then 0 else (1; 2; f (n - 1))");
        tail(true, "if n = 0 then 0 else let val m = n - 1 in f m end");
        tail(true, "if n = 0 then 0 else let val m = n - 1 fun g x = x in 1; f m end");
        tail(true, "if n = 0 then 0 else (f (n - 1) : int)");
        tail(true, "if n = 0 then 0 else (((f (n - 1))))");
        tail(true, "if n = 0 then 0 else (fn x => f (x - 1)) n");
        tail(true, "if n = 0 then 0 else let fun g x = f (x - 1) in g n end");
        tail(true, "if n = 0 then 0 else same f (n - 1)");
        tail(true, "n = 0 orelse f (n - 1)");
        tail(true, "n <> 0 andalso f (n - 1)");
        tail(true, "n <> 0 andalso true andalso f (n - 1)");
        tail(true, "n = 0 orelse n <> 0 andalso if true then f (n - 1) else false");
        tail(true, "if n = 0 then 0 else (raise Div) handle Match => 1 | Div => (2; case 1 of x => f (n - x))");
        tail(false, "if n = 0 then 0 else 1 + f (n - 1)");
        tail(false, "if n = 0 then 0 else f (n - 1) + 1");
        tail(false, "if n = 0 then 0 else same (f (n - 1))");
        tail(false, "if n = 0 then 0 else (f (n - 1); 0)");
        tail(false, "if n = 0 then 0 else let val m = f (n - 1) in m end");
        tail(false, "if n = 0 then 0 else let in f (n - 1); 0 end");
        tail(false, "if n = 0 then 0 else f (n - 1) handle _ => 1");
        tail(false, "if n = 0 then 0 else let in f (n - 1) end handle _ => 1");
        tail(false, "if n = 0 then 0 else case f (n - 1) of x => x");
        tail(false, "if n = 0 then 0 else if f (n - 1) = 0 then 0 else 1");
        tail(false, "if n = 0 then true else f (n - 1) andalso true");
        tail(false, "if n = 0 then true else f (n - 1) orelse true");
        tail(false, "if n = 0 then [] else 1 :: f (n - 1)");
        tail(false, "if n = 0 then (0, 0) else case (f (n - 1), 1) of (x, _) => x");
        tail(false, "if n = 0 then 0 else !(ref (f (n - 1)))");
        tail(false, "if n = 0 then () else r := (f (n - 1); 1)");
        tail(false, "if n = 0 then () else while (f (n - 1); false) do ()");
        tail(false, "if n = 0 then 0 else (raise (f (n - 1); Div)) handle _ => 1");
        tail(false, "if n = 0 then \"\" else f (n - 1) ^ \"\"");
    }

    /** The words of calls in tail position, counted. */
    private static void tailWords() {
        // f and g; f's call, x, g and its argument; of f's call only these two stay, and two more.
        pile("fun g _ = 1 fun f x = g x in f 1", 2 + 4 + 1 + 2);
        pile("fun g _ = 1 + (2 + (3 + (4 + (5 + 6)))) fun f x = g x in f 1", 2 + 4 + 6);
        pile("fun g _ = 1 + (2 + (3 + (4 + (5 + 6)))) fun f x = g x + 0 in f 1", 2 + 4 + 1 + 4 + 6);
        pile("fun g _ = 1 + (2 + (3 + (4 + (5 + 6)))) fun f x = let val y = 1 val z = 2 in g x end in f 1", 2 + 4 + 1 + 4 + 2);
        // What is known ahead or a constructor takes nothing there.
        pile("fun f x = let val y = 1 in not x end in f true", 1 + 4 + 1 + 2 + 2);
        pile("datatype t = A of int fun f x = let val y = 1 in A x end in f 1", 1 + 4 + 1 + 2 + 2);
        // The outermost EXP is no body: nothing is taken.
        pile("fun g _ = 1 + (2 + 3) in let val y = 1 in g 1 end", 1 + 2 + 4 + 3);
        pile("fun g _ = 1 + (2 + 3) in if true then g 1 else 2", 1 + 4 + 3);
        // A call of a function that has been handed over.
        pile("in (fn g => g 1) (fn _ => 1 + (2 + 3))", 4 + 3);
        pile("fun f x y = x y in f (fn _ => 1 + (2 + (3 + 4))) 5", 1 + 4 + 4);
    }

    /** "4 PILE: it would have more than 6,000 words (words that come together come one by one: the greatest PILE is 6,000 then)". */
    private static void full() {
        String loop = "fun f n = if n = 0 then 0 else 1 + f (n - 1) in f ";
        // f, six words a level, and at last four, n and two: 6 * 998 + 8 = 5,996.
        ends(loop + "998", STEPS_MOST, 16, "0 999 0 2 5996");
        ends("val x = 1 val y = 2 " + loop + "998", STEPS_MOST, 16, "0 999 0 2 6000");
        ends("val x = 1 val y = 2 val _ = 3 " + loop + "998", STEPS_MOST, 16, "4 999 0 2 6000");
        ends(loop + "999", STEPS_MOST, 16, "4 1000 0 2 6000");
        ends(loop + "5000", STEPS_MOST, 16, "4 1000 0 2 6000");
        ends("fun f n = n + f n in f 1", STEPS_MOST, 16, "4 1000 0 2 6000");
        // Words that come together: a call's two, a handle's three, a PAT's variables.
        for (int extra = 0; extra < 6; extra++) {
            String ahead = times("val _ = 1 ", extra);
            ends(ahead + "fun f n = 0 + f n in f 1", STEPS_MOST, 16, "4 " + (extra < 4 ? 1000 : 999) + " 0 2 6000");
            ends(ahead + "fun f n = (f n handle _ => 0) in f 1", STEPS_MOST, 16, "4 " + handleSteps(extra) + " 0 2 6000");
            ends(ahead + "fun f (a, b, c) = 0 + f (a, b, c) in f (1, 2, 3)", STEPS_MOST, HEAP_MOST, "4 " + tupleSteps(extra) + " 0 " + (2 + 4 * tupleSteps(extra)) + " 6000");
        }
        ends("fun f n = f n + f n in f 1", 999, 16, "2 999 0 2 4998");
    }

    /** With extra words ahead of f: how many calls have begun till there are 6,000 words. */
    private static int handleSteps(int extra) {
        // extra, f; then each level: 4, n, 3; and the next one's function and argument ahead of its step.
        int words = extra + 1;
        int calls = 0;
        while (words + 2 <= 6000) {
            calls++;
            words += 4 + 1 + 3;
        }
        return calls;
    }

    private static int tupleSteps(int extra) {
        // extra, f; each level: 4, a, b, c, 0; the argument is made on the pile of f, a, b, c.
        int words = extra + 1;
        int calls = 0;
        while (words + 4 <= 6000) {
            calls++;
            words += 4 + 3 + 1;
        }
        return calls;
    }

    public static void main(String[] args) {
        exps();
        bound();
        calls();
        moreAtpats();
        tails();
        tailWords();
        full();
        finish("the pile");
    }
}
