import java.nio.charset.StandardCharsets;

/** Every promise of the document: ordinary inputs, the edges that it names, and wrong inputs. */
public final class LeanHouseTest {
    private static int wrong;
    private static int checked;

    private static void same(String what, Object got, Object due) {
        checked++;
        if (got.equals(due)) return;
        wrong++;
        System.out.println(what + ": answered " + got + ", due is " + due);
    }

    private interface Call {
        long go();
    }

    private static String answer(Call call) {
        try {
            return "" + call.go();
        } catch (RuntimeException e) {
            return e.getClass().getSimpleName();
        }
    }

    private static final String STATE = "IllegalStateException";
    private static final String ARGUMENT = "IllegalArgumentException";
    private static final String INDEX = "IndexOutOfBoundsException";

    private static void load(LeanHouse house, byte[] bytes) {
        int[] row = new int[5];
        int padded = (bytes.length + 19) / 20 * 20;
        for (int k = 0; k < padded; k += 20) {
            for (int n = 0; n < 20; n++) row[n / 4] = row[n / 4] << 8 | (k + n < bytes.length ? bytes[k + n] & 255 : 0);
            house.feed(row[0], row[1], row[2], row[3], row[4]);
        }
        house.end(padded - bytes.length);
    }

    private static boolean read(LeanHouse house, String text) {
        load(house, text.getBytes(StandardCharsets.ISO_8859_1));
        return house.read();
    }

    private static String told(LeanHouse house, int what) {
        String size = answer(() -> house.tell(what));
        if (!Character.isDigit(size.charAt(0))) return size;
        StringBuilder s = new StringBuilder();
        for (int k = 0; k < Integer.parseInt(size); k++) s.append((char) house.resultAt(k));
        return s.toString();
    }

    private static String output(LeanHouse house) {
        StringBuilder s = new StringBuilder();
        for (int k = 0; answer(() -> house.byteAt(s.length())).length() < 4; k++) s.append((char) house.byteAt(k));
        return s.toString();
    }

    /** A text with a fault: the place is where the mark stands, which is taken out. */
    private static void fault(int what, String marked) {
        int place = marked.indexOf('\u00a7');
        String text = marked.substring(0, place) + marked.substring(place + 1);
        LeanHouse house = new LeanHouse();
        same("read of " + text, read(house, text), false);
        same("fault of " + text, house.fault(0) + " at " + house.fault(1), what + " at " + place);
        same("tell of " + text, told(house, 0), STATE);
    }

    private static void type(String text, String type) {
        LeanHouse house = new LeanHouse();
        if (!read(house, text)) same("fault of " + text, house.fault(0) + " at " + house.fault(1), "none");
        else same("type of " + text, told(house, 0), type);
    }

    /** How a program ends by all three ways to run, with what is told and what is seen. */
    private static void runs(String text, int steps, int heap, String due) {
        LeanHouse house = new LeanHouse();
        house.give(5);
        house.give(-3);
        house.give(9);
        if (!read(house, text)) {
            same("fault of " + text, house.fault(0) + " at " + house.fault(1), "none");
            return;
        }
        for (int how = 0; how < 3; how++) {
            StringBuilder s = new StringBuilder();
            s.append(house.run(how, steps, heap)).append(" ").append(told(house, 1));
            for (int k = 0; k < 5; k++) s.append(" ").append(house.seen(k));
            if (house.seen(4) > 0) s.append(" ").append(output(house));
            same("how " + how + " of " + text, s.toString(), due);
        }
    }

    private static void value(String text, String value) {
        LeanHouse house = new LeanHouse();
        if (!read(house, text)) {
            same("fault of " + text, house.fault(0) + " at " + house.fault(1), "none");
            return;
        }
        for (int how = 0; how < 3; how++) {
            house.run(how, 20000, 4096);
            same("value of " + text, told(house, 1), value);
        }
    }

    private static String times(String s, int n) {
        return s.repeat(n);
    }

    private static void newObject() {
        LeanHouse house = new LeanHouse();
        same("NONE", LeanHouse.NONE, -1);
        for (int k = 0; k < 3; k++) same("count", house.count(k), 0);
        same("fault", house.fault(0), 0);
        same("place", house.fault(1), -1);
        same("tell", told(house, 0), STATE);
        same("byte", answer(() -> house.byteAt(0)), INDEX);
        same("result", answer(() -> house.resultAt(0)), INDEX);
        same("run", answer(() -> house.run(0, 1, 16)), STATE);
        same("seen", answer(() -> house.seen(0)), STATE);
        same("take", house.take(), 0);
    }

    private static void feedAndEnd() {
        LeanHouse house = new LeanHouse();
        same("feed", house.feed(0x696e2031, 0x20202020, 0x20202020, 0x20202020, 0x20202020), 20);
        same("end", house.end(16), 4);
        for (int n : new int[] {-1, 20, 5, Integer.MIN_VALUE, Integer.MAX_VALUE}) {
            same("end " + n, answer(() -> house.end(n)), ARGUMENT);
        }
        same("end 0", house.end(0), 4);
        same("left", house.count(0), 4);
        same("read", house.read(), true);
        same("used up", house.count(0), 0);
        same("end 1", answer(() -> house.end(1)), ARGUMENT);
        for (int k = 1; k <= 409; k++) same("feed " + k, house.feed(-1, 0, 0, 0, 0), 20 * k);
        same("full", answer(() -> house.feed(0, 0, 0, 0, 0)), STATE);
        same("unchanged", house.count(0), 8180);
        same("end 8", house.end(8), 8172);
        same("feed to the brim", house.feed(0, 0, 0, 0, 0), 8192);
        same("over the brim", answer(() -> house.feed(0, 0, 0, 0, 0)), STATE);
        same("end 19", house.end(19), 8173);
    }

    private static void reading() {
        LeanHouse house = new LeanHouse();
        same("empty", house.read(), false);
        same("fault", house.fault(0) * 100 + house.fault(1), 200);
        same("good", read(house, "datatype t = A | B of int exception E in B 1"), true);
        same("no fault", house.fault(0) + " " + house.fault(1), "0 -1");
        same("cons", house.count(2), 3);
        house.run(0, 10, 100);
        same("bad", read(house, "in"), false);
        same("cons gone", house.count(2), 0);
        same("program gone", answer(() -> house.run(0, 10, 100)), STATE);
        same("run gone", answer(() -> house.seen(0)), STATE);
        same("fault 2", answer(() -> house.fault(2)), INDEX);
        same("fault -1", answer(() -> house.fault(-1)), INDEX);
    }

    private static void inputs() {
        LeanHouse house = new LeanHouse();
        for (int k = 1; k <= 100; k++) same("give", house.give(k == 1 ? 1 << 30 : k == 2 ? (1 << 30) - 1 : k == 3 ? -1 : k), k);
        same("give too many", answer(() -> house.give(1)), STATE);
        same("inputs", house.count(1), 100);
        read(house, "in (given 0, given 1, given 2, given 99, many ())");
        house.run(0, 10, 100);
        same("given", told(house, 1), "(~1073741824, 1073741823, ~1, 100, 100)");
        same("take", house.take(), 100);
        same("take again", house.take(), 0);
        house.run(0, 10, 100);
        same("none given", told(house, 1), "Subscript");
        read(house, "in (given ~1 handle Subscript => many ())");
        house.run(2, 10, 100);
        same("below", told(house, 1), "0");
        same("count 3", answer(() -> house.count(3)), INDEX);
        same("count -1", answer(() -> house.count(-1)), INDEX);
    }

    private static void tokens() {
        fault(1, "in \u00a7\u0007");
        fault(1, "in \u00a7#");
        fault(1, "in 1 \u00a7(* (* *)");
        fault(1, "in \u00a7\"abc");
        fault(1, "in \u00a7\"a\\q\"");
        fault(1, "in \u00a7\"a\\256\"");
        fault(1, "in \u00a7\"a\\25\"");
        fault(1, "in \u00a7\"a\u0001\"");
        fault(1, "in \u00a7\"" + times("a", 201) + "\"");
        value("in size \"" + times("\\065", 200) + "\"", "200");
        fault(1, "in \u00a7" + times("a", 32));
        fault(3, "in \u00a7" + times("a", 31));
        fault(1, "in fn (x : \u00a7'" + times("a", 32) + ") => x");
        type("in fn (x : '" + times("a", 31) + ") => x", "'a -> 'a");
        type("in fn (x : 'val) => x", "'a -> 'a");
        fault(1, "in fn (x : \u00a7''a) => x");
        fault(1, "in \u00a712a");
        fault(1, "in \u00a71_");
        fault(1, "in \u00a7~1'");
        fault(1, "in \u00a71073741824");
        fault(1, "in \u00a7~1073741825");
        fault(1, "in \u00a7" + times("9", 60));
        value("in (~1073741824, 1073741823, 0000000000000000000012, ~0)", "(~1073741824, 1073741823, 12, 0)");
        fault(3, "in \u00a7x~1");
        fault(5, "in 1\u00a7~1");
        fault(5, "in (1)\u00a7~1");
        fault(5, "in 1(**)\u00a7~1");
        fault(5, "in 1 \u00a7~1");
        value("in ~ ~1", "1");
        value("in ~~1", "1");
        value("in (* a (* b *) \u0000\u00ff \" *) 1 (**)", "1");
        value("in \"a\n\tb\\000\\255\\\\\\\"\"", "\"a\\n\\tb\\000\\255\\\\\\\"\"");
        fault(2, "in (\u00a7_abc)");
        fault(2, "in a::\u00a7=b");
    }

    private static void grammar() {
        fault(2, "\u00a7");
        fault(2, "in 1 +\u00a7");
        fault(2, "in 1\u00a7;");
        fault(2, "val x = 1;\u00a7; in x");
        fault(2, "in let \u00a7datatype t = A in A end");
        fault(2, "in let \u00a7exception E in 1 end");
        fault(2, "in 1 + \u00a7if true then 1 else 2");
        fault(2, "in (1, 2\u00a7; 3)");
        fault(2, "in (1; 2\u00a7, 3)");
        fault(2, "val rec f = \u00a7g in f");
        fault(2, "fun f \u00a7= 1 in f");
        fault(2, "fun f x = case x of 1 => 2 | f y \u00a7= 3 in f");
        fault(2, "in fn (x : int \u00a7: int) => x");
        fault(2, "in fn x as\u00a7");
        fault(2, "in fn C x \u00a7as y => 1");
        fault(2, "datatype t = \u00a7| A in A");
        fault(2, "datatype \u00a7ref = A in A");
        fault(2, "in (1 : (int, bool)\u00a7)");
        fault(2, "in raise 1 handle\u00a7");
        fault(2, "in x \u00a7then");
        fault(2, "in 1 : int \u00a7+ 2");
        fault(2, "in 1 : int \u00a7= 2");
        fault(2, "in [1 : int \u00a7:: nil]");
        fault(2, "in ref 1 : int ref \u00a7:= 2");
        fault(2, "in x := if true then 1 else 2 : int \u00a7= 3");
        fault(5, "in ref 1 := if true then 1 else 2 : int \u00a7:= 3");
        fault(5, "in ref 1 := raise Div : exn \u00a7:= raise Div : exn := 3");
        fault(2, "in true orelse if true then true else true : bool \u00a7:= 3");
        fault(2, "in ref 1 := if true then 1 else 2 : int \u00a7+ 3");
        type("in true : bool andalso 1 = 2 : bool orelse false", "bool");
        type("in 1 + 2 : int : int", "int");
        type("val x = 1; val y = 2 in x + y", "int");
        type("in fn x => x := if true then 1 else 2", "int ref -> unit");
        type("in fn x => x := raise Div", "'a ref -> unit");
        type("in 1 = 2 andalso 3 < 4 orelse raise Div", "bool");
        type("in ([1, 2] : int list : int list)", "int list");
        type("in fn x as y :: z : int list => (x, y, z)", "int list -> int list * int * int list");
        type("datatype ('a) t = A of 'a in A", "'a -> 'a t");
        value("in (1 + 2 * 3 - 4, 1 :: 2 :: [], \"a\" ^ \"b\", 7 - 2 - 1, 17 div 5 mod 2)", "(3, [1, 2], \"ab\", 4, 1)");
        value("in (fn f => f 1 :: [2]) (fn x => x + 1)", "[2, 2]");
    }

    private static void manyThings() {
        type("in " + times("1+", 998) + "~ 1", "int");
        fault(7, "in " + times("1+", 999) + "1\u00a7+ 1");
        fault(7, "in " + times("1+", 999) + "1\u00a7)");
        fault(1, "in " + times("1+", 999) + "1\u00a7#");
        type("in " + times("(", 40) + "1" + times(")", 40), "int");
        fault(7, "in " + times("(", 40) + "\u00a7(1" + times(")", 41));
        fault(7, "in " + times("[", 40) + "1 \u00a7:: nil");
        fault(7, "in " + times("[", 40) + "1 \u00a7handle");
        fault(7, "in " + times("[", 40) + "\u00a7let");
        fault(7, "in " + times("[", 40) + "true \u00a7andalso");
        fault(2, "in " + times("[", 40) + "1 \u00a7then");
        type("in " + times("1::", 40) + "nil", "int list");
        fault(7, "in " + times("1::", 40) + "1\u00a7::nil");
        fault(7, "in fn (x : " + times("int->", 38) + "int\u00a7->int) => x");
        fault(7, "in fn " + times("(", 39) + "x \u00a7as y");
        type("in (" + times("1=1 andalso ", 39) + "true)", "bool");
        type("in " + times("1=1 andalso ", 40) + "true", "bool");
        type("in (" + times("1,", 29) + "1)", times("int * ", 29) + "int");
        fault(7, "in (" + times("1,", 30) + "\u00a71)");
        fault(2, "in (" + times("1,", 30) + "\u00a7)");
        fault(7, "in fn (" + times("_,", 30) + "\u00a7_) => 1");
        fault(7, "in fn (x : " + times("int *", 30) + "\u00a7int) => 1");
        fault(2, "in fn (x : " + times("int *", 30) + "\u00a7) => 1");
        type("fun f" + times(" _", 12) + " = 1 in f" + times(" 1", 12), "int");
        fault(7, "fun f" + times(" _", 12) + " \u00a7_ = 1 in f");
        StringBuilder cons = new StringBuilder("datatype t = C");
        for (int k = 1; k < 60; k++) cons.append("|C").append(k);
        type(cons + " in 1", "int");
        fault(7, cons + " exception \u00a7E in 1");
        fault(2, cons + " exception \u00a7in 1");
        StringBuilder types = new StringBuilder();
        for (int k = 0; k < 30; k++) types.append("datatype t").append(k).append(" = C").append(k).append(' ');
        type(types + " in 1", "int");
        fault(7, types + "datatype \u00a7u = U in 1");
        String hundred = times("val x = 1 ", 100);
        type(hundred + "in x", "int");
        fault(7, hundred + "val \u00a7y = 1 in x");
        fault(7, hundred + "fun \u00a7f x = x in x");
        fault(7, hundred + "in fn \u00a7y => y");
        String some = times("val x = 1 ", 98);
        type(some + "val (a, b) = let val (p, q) = (1, 2) in (p, q) end in a", "int");
        fault(7, some + "val (a, b) = let val (p, q) = (1, 2) in fn \u00a7y => y end in a");
        fault(4, some + "val (a, \u00a7a) = 1 in a");
        fault(4, hundred.substring(10) + "val (a, \u00a7a) = 1 in a");
    }

    private static void namesAndSuch() {
        fault(3, "in \u00a7x");
        fault(3, "in fn \u00a7C x => 1");
        fault(3, "datatype t = A of \u00a7u in 1");
        fault(3, "datatype 'a t = A of \u00a7'b in 1");
        fault(3, "exception E of \u00a7'a in 1");
        fault(3, "in (1 : \u00a7foo)");
        fault(4, "val (x, \u00a7x) = (1, 2) in x");
        fault(4, "fun f x \u00a7x = 1 in f");
        fault(4, "in fn (x as \u00a7x) => 1");
        fault(4, "fun f x = 1 and \u00a7f x = 2 in f");
        fault(4, "fun \u00a7nil x = 1 in 1");
        fault(4, "val rec \u00a7true = fn x => x in 1");
        fault(4, "in fn (\u00a7nil as x) => x");
        fault(4, "datatype ('a, \u00a7'a) t = A in 1");
        fault(4, "datatype t = A datatype \u00a7t = B in 1");
        fault(4, "datatype \u00a7int = A in 1");
        fault(4, "datatype t = true2 of u and \u00a7t = B in 1");
        fault(4, "datatype t = A | \u00a7A in 1");
        fault(4, "exception \u00a7Div in 1");
        fault(4, "datatype t = A exception \u00a7A in 1");
        fault(4, "fun f 1 = 2 | \u00a7g 2 = 3 in f");
        fault(4, "fun f x = x | \u00a7f x y = x in f");
        fault(6, "in (1 : \u00a7list)");
        fault(6, "in (1 : int \u00a7int)");
        fault(6, "in (1 : (int, int) \u00a7list)");
        fault(6, "datatype t = C of int in fn \u00a7C => 1");
        fault(6, "in fn \u00a7nil x => 1");
        fault(6, "datatype t = C of int fun f \u00a7C = 1 | f (C 1) = 2 in 1");
        value("val print = 5 val not = 3 in print + not", "8");
        value("val x = 1 exception x of int in x 2", "x 2");
        type("datatype t = A of u and u = B of t | C in A", "u -> t");
        type("datatype ('a, 'b) t = A of ('b, 'a) t | B of 'a * 'b in A (B (1, true))", "(bool, int) t");
    }

    private static void typing() {
        fault(5, "in 1 \u00a7+ true");
        fault(5, "in (true \u00a7+ 1)");
        fault(5, "in fn x => x \u00a7x");
        fault(5, "in (fn x => x + 1) \u00a7(true)");
        fault(5, "in \u00a7if 1 then 2 else 3");
        fault(5, "in if true then 2 \u00a7else ()");
        fault(5, "in \u00a7while 1 do ()");
        fault(5, "in case 1 of \u00a7true => 1");
        fault(5, "in case 1 of 2 => 3 | _ => \u00a7()");
        fault(5, "in 1 handle \u00a72 => 3");
        fault(5, "in 1 handle _ => \u00a7()");
        fault(5, "in fn 1 => 2 | \u00a7true => 3");
        fault(5, "in fn 1 => 2 | 2 => \u00a7true");
        fault(5, "in \u00a7raise 3");
        fault(5, "in (1 \u00a7: bool)");
        fault(5, "in [1, \u00a7true]");
        fault(5, "in fn [1, \u00a7true] => 1");
        fault(5, "val 1 \u00a7= true in 1");
        fault(5, "fun f 1 = 2 | \u00a7f true = 3 in f");
        fault(5, "fun f x : int = 1 | \u00a7f y : bool = 2 in f");
        fault(5, "fun f x : int \u00a7= true in f");
        fault(5, "val rec f \u00a7= fn x => f in f");
        fault(5, "datatype t = C of int in fn \u00a7C true => 1");
        fault(5, "in fn 1 \u00a7:: true => 1");
        fault(5, "in 1 \u00a7:: [true]");
        fault(5, "in ref 1 \u00a7:= true");
        fault(5, "in \"a\" \u00a7= \"b\"");
        fault(5, "in fn x => x \u00a7+ (x : bool)");
        fault(5, "val f = (fn x => x) (fn y => y) in (f 1, f \u00a7true)");
        fault(5, "val f = ref in (f 1, f \u00a7true)");
        fault(5, "in fn f => (f 1, f \u00a7true)");
        fault(5, "in let fun id (x : 'a) : 'a = x in (id 1, id \u00a7true) end");
        fault(5, "val r = ref [] in (r := [1]; r \u00a7:= [true])");
        type("fun id (x : 'a) : 'a = x in (id 1, id true)", "int * bool");
        type("val (f, g) = (fn x => x, [fn y => y]) in (f 1, f true, g)", "int * bool * ('a -> 'a) list");
        type("datatype 'a o = N | S of 'a val x = S (fn y => y) val z = [] :: [] in (x, z, x)", "('a -> 'a) o * 'b list list * ('c -> 'c) o");
        type("fun f x = g x and g x = x in (f 1, g true)", "int * bool");
        type("in fn x => let val y = (x, fn z => z) in (y, y) end", "'a -> ('a * ('b -> 'b)) * ('a * ('c -> 'c))");
        type("in fn (x, y) => fn z => (x z, y : int)", "('a -> 'b) * int -> 'a -> 'b * int");
        type("in fn f => fn x => [f (f x)]", "('a -> 'a) -> 'a -> 'a list");
        type("in fn (a : ('x -> 'y) list, b : ('x * 'y) ref) => !b", "('a -> 'b) list * ('a * 'b) ref -> 'a * 'b");
        type("in while true do 1", "unit");
        type("in raise Div", "'a");
        StringBuilder wide = new StringBuilder("in fn (");
        for (int k = 0; k < 28; k++) wide.append(k > 0 ? ", " : "").append("x").append(k);
        LeanHouse house = new LeanHouse();
        same("wide", read(house, wide + ") => 1"), true);
        same("variables", told(house, 0).endsWith("'y * 'z * 'a1 * 'b1 -> int"), true);
        String pairs = "val a = fn x => x val b = (a, a, a, a, a) val c = (b, b, b, b, b) ";
        type(pairs + "in 1", "int");
        fault(7, pairs + "val \u00a7d = (c, b, b) in 1");
        type("val a = 1 val b = (a, a, a, a, a, a) val c = (b, b, b, b, b, b) val d = (c, c, c, c) in 1", "int");
        StringBuilder variables = new StringBuilder("datatype (");
        for (int k = 0; k < 98; k++) variables.append(k > 0 ? ", " : "").append("'a").append(k);
        type(variables + ") t = A in 1", "int");
        fault(7, variables + ") t = A | \u00a7B of 'a1 in 1");
    }

    /** Whether val x = EXP makes x general: then it can be used at both types. */
    private static void valued(boolean is, String exp, String one, String other) {
        String ahead = "datatype 'a o = N | S of 'a datatype 'a t = C of 'a list exception E of int "
            + "val n = nil fun i y = y val x = " + exp + " in (x : " + one + "; x ";
        if (is) type(ahead + ": " + other + ")", other);
        else fault(5, ahead + "\u00a7: " + other + ")");
    }

    private static void valuedList(boolean is, String exp) {
        valued(is, exp, "int list", "bool list");
    }

    private static void valuedPair(boolean is, String exp, String type) {
        valued(is, "(" + exp + ", nil)", type + " * int list", type + " * bool list");
    }

    private static void valuedForms() {
        valuedList(true, "nil");
        valuedList(true, "n");
        valuedList(true, "[]");
        valuedList(true, "(n)");
        valuedList(true, "((nil))");
        valuedList(true, "nil : 'b list");
        valuedList(true, "(n : 'b list) : 'b list");
        valued(true, "i", "int -> int", "bool -> bool");
        valued(true, "N", "int o", "bool o");
        valued(true, "S", "int -> int o", "bool -> bool o");
        valued(true, "!", "int ref -> int", "bool ref -> bool");
        valued(false, "ref", "int -> int ref", "bool -> bool ref");
        valued(false, "(ref)", "int -> int ref", "bool -> bool ref");
        valued(false, "ref : 'b -> 'b ref", "int -> int ref", "bool -> bool ref");
        valued(true, "fn y => i y", "int -> int", "bool -> bool");
        valuedPair(true, "1", "int");
        valuedPair(true, "~1", "int");
        valuedPair(true, "\"a\"", "string");
        valuedPair(true, "()", "unit");
        valuedPair(true, "true", "bool");
        valuedPair(true, "Div", "exn");
        valuedPair(true, "print", "(string -> unit)");
        valuedPair(true, "E 1", "exn");
        valuedPair(true, "1 : int", "int");
        valuedPair(false, "E (i 1)", "exn");
        valuedPair(false, "~ 1", "int");
        valuedPair(false, "!(ref 1)", "int");
        valuedPair(false, "ref 1", "int ref");
        valuedPair(false, "1 + 2", "int");
        valuedPair(false, "1 < 2", "bool");
        valuedPair(false, "\"a\" ^ \"b\"", "string");
        valuedPair(false, "true andalso true", "bool");
        valuedPair(false, "true orelse true", "bool");
        valuedPair(false, "ref 1 := 2", "unit");
        valuedPair(false, "while false do ()", "unit");
        valuedConstructors();
        valuedOthers();
    }

    private static void valuedConstructors() {
        valued(true, "S nil", "int list o", "bool list o");
        valued(true, "S (fn y => y)", "(int -> int) o", "(bool -> bool) o");
        valued(true, "S (S (nil, 1))", "(int list * int) o o", "(bool list * int) o o");
        valued(true, "(C nil)", "int t", "bool t");
        valued(true, "C nil : 'b t", "int t", "bool t");
        valued(true, "C (nil : 'b list)", "int t", "bool t");
        valued(true, "(C) nil", "int t", "bool t");
        valued(false, "(C : 'b list -> 'b t) nil", "int t", "bool t");
        valued(false, "((C) : 'b list -> 'b t) nil", "int t", "bool t");
        valued(false, "((C : 'b list -> 'b t)) nil", "int t", "bool t");
        valued(false, "[(C : 'b list -> 'b t) nil]", "int t list", "bool t list");
        valued(false, "S ((C : 'b list -> 'b t) nil)", "int t o", "bool t o");
        valued(false, "C (i nil)", "int t", "bool t");
        valued(false, "S (ref nil)", "int list ref o", "bool list ref o");
        valued(false, "ref nil", "int list ref", "bool list ref");
        valued(false, "(let in C end) nil", "int t", "bool t");
        valued(false, "(1; C) nil", "int t", "bool t");
        valued(false, "(if true then C else C) nil", "int t", "bool t");
        valued(false, "(fn y => C y) nil", "int t", "bool t");
        valued(true, "[nil]", "int list list", "bool list list");
        valued(true, "[nil, n, []]", "int list list", "bool list list");
        valued(false, "[nil, i nil]", "int list list", "bool list list");
        valued(false, "[i nil, nil]", "int list list", "bool list list");
        valued(true, "nil :: n", "int list list", "bool list list");
        valued(false, "i nil :: nil", "int list list", "bool list list");
        valued(false, "nil :: i nil", "int list list", "bool list list");
        valued(true, "(nil, [(1, fn y => 2)])", "int list * (int * (int -> int)) list", "bool list * (int * (bool -> int)) list");
        valued(false, "(nil, i 1)", "int list * int", "bool list * int");
        valued(false, "(i 1, nil)", "int * int list", "int * bool list");
    }

    private static void valuedOthers() {
        valuedList(false, "i nil");
        valuedList(false, "(fn y => y) nil");
        valuedList(false, "(nil; nil)");
        valuedList(false, "let in nil end");
        valuedList(false, "if true then nil else nil");
        valuedList(false, "case 1 of _ => nil");
        valuedList(false, "raise Div");
        valuedList(false, "nil handle _ => nil");
        valuedList(false, "i nil : 'b list");
        valuedList(false, "(i nil)");
    }

    private static void running() {
        runs("in 1", 1, 16, "0 1 0 0 0 1 0");
        runs("in 1 + 2", 1, 16, "0 3 0 0 0 2 0");
        runs("in (1, \"abcde\", ref 2)", 10, 100, "0 (1, \"abcde\", ref 2) 1 0 9 4 0");
        runs("in [1, 2]", 10, 100, "0 [1, 2] 0 0 10 3 0");
        runs("in \"\"", 10, 100, "0 \"\" 0 0 1 1 0");
        runs("val x = 5 in x * x + 1", 10, 100, "0 26 0 0 0 4 0");
        runs("fun f x = x + 1 in f 3", 10, 100, "0 4 1 0 2 8 0");
        runs("in 1 div 0", 10, 100, "1 Div 0 0 0 2 0");
        runs("in raise Match", 10, 100, "1 Match 0 0 0 1 0");
        runs("val x :: y = [] in x", 10, 100, "1 Bind 0 0 0 1 0");
        runs("fun f 1 = 2 in f 2", 10, 100, "1 Match 1 0 2 5 0");
        runs("in case 1 of 2 => 3", 10, 100, "1 Match 0 0 0 1 0");
        runs("in case (1, 2) of (1, 3) => 0 | (x, y) => x + y", 10, 100, "0 3 0 0 3 5 0");
        runs("fun f n = n + f (n + 1) in f 0", 300, 120, "2 IllegalStateException 300 0 2 1804 0");
        runs("fun f n = if n = 0 then 7 else f (n - 1) in f 300", 1000, 16, "0 7 301 0 2 9 0");
        runs("fun f n = n + f (n + 1) in f 0", 20000, 16, "4 IllegalStateException 1000 0 2 6000 0");
        runs("fun f a b c = a + b + c in f 1 2 3", 10, 100, "0 6 3 0 9 10 0");
        runs("fun f a b = if a = 0 then b else f (a - 1) b in f 2 5", 10, 100, "0 5 6 0 14 12 0");
        runs("in (1 handle Div => 2) + 3", 10, 100, "0 4 0 0 0 4 0");
        runs("exception E of int in (raise E 3) handle E 4 => 1 | Div => 2", 10, 100, "1 E 3 1 0 2 5 0");
        runs("exception E of int in ((raise E 3) handle Div => 2) handle E x => x * 2", 10, 100, "0 6 1 0 2 8 0");
        runs("in (put 5; put ~7; print \"x\"; many ())", 10, 100, "0 3 4 0 2 2 6 5\n~7\nx");
        runs("in given 3", 10, 100, "1 Subscript 1 0 0 2 0");
        runs("in (given 0, given 1)", 10, 100, "0 (5, ~3) 2 0 3 3 0");
        runs("val r = ref 0 in (while !r < 3 do r := !r + 1; !r)", 100, 100, "0 3 13 0 2 5 0");
        runs("val r = ref 0 in while true do r := 1", 7, 100, "2 IllegalStateException 7 0 2 4 0");
        runs("in (fn x => (fn y => x + y)) 1 2", 10, 100, "0 3 2 0 5 7 0");
        runs("fun even 0 = true | even n = odd (n - 1) and odd 0 = false | odd n = even (n - 1) in even 10", 100, 100, "0 true 11 0 6 10 0");
        runs("in let val a = 1 val b = 2 in a + b end", 10, 100, "0 3 0 0 0 6 0");
        runs("fun loop n = (ref n; if n = 0 then 9 else loop (n - 1)) in loop 20", 100, 16, "0 9 44 2 16 9 0");
        runs("in (1, 2, 3, 4, 5, 6, 7, 8, 9, 10, 11, 12, 13, 14, 15)", 10, 16, "0 (1, 2, 3, 4, 5, 6, 7, 8, 9, 10, 11, 12, 13, 14, 15) 0 0 16 15 0");
        runs("in (1, 2, 3, 4, 5, 6, 7, 8, 9, 10, 11, 12, 13, 14, 15, 16)", 10, 16, "3 IllegalStateException 1 1 0 16 0");
        runs("val a = (1, 2, 3) in (ref 1; ref 2; (4, 5, 6, 7); (1, 2, 3, 4, 5, 6, 7, 8, 9))", 10, 16, "0 (1, 2, 3, 4, 5, 6, 7, 8, 9) 3 1 14 11 0");
        runs("val a = (1, 2, 3) in (ref 1; ref 2; (4, 5, 6, 7); (1, 2, 3, 4, 5, 6, 7, 8, 9))", 2, 16, "2 IllegalStateException 2 0 13 11 0");
    }

    private static void values() {
        value("in (7 div ~2, 7 mod ~2, ~7 div 2, ~7 mod 2, ~1073741824 div ~1, 1073741823 + 1, 1073741823 * 1073741823)",
            "(~4, ~1, ~4, 1, ~1073741824, ~1073741824, 1)");
        value("in (true, false, (), [], nil, fn x => x, print, ref)", "(true, false, (), [], [], fn, fn, fn)");
        value("datatype 'a o = N | S of 'a in [S (S ~1), N, S N]", "[S (S ~1), N, S N]");
        value("datatype 'a o = N | S of 'a in (S, S (1, 2), S [N], S (ref 1), ref (S 1), ref (ref 2), S \"a\", S (fn x => x))",
            "(fn, S (1, 2), S [N], S (ref 1), ref (S 1), ref (ref 2), S \"a\", S fn)");
        value("in (sub (\"abc\", 1), sub (\"abc\", 3) handle Subscript => 0, chr 65, chr 0, size (str ~12), not true)",
            "(98, 0, \"A\", \"\\000\", 3, false)");
        value("in (chr ~1; 1)", "Chr");
        value("exception E of int * string in raise E (1, \"a\")", "E (1, \"a\")");
        value("in case [1, 2, 3] of [x] => 0 | [x, y] => 1 | x :: (z as y :: _) => x + y", "3");
        value("in raise raise Div", "Div");
        value("in (1; true; \"a\")", "\"a\"");
        value("val r = ref 1 in [(r := !r + 1; !r), (r := 5; !r), !r]", "[2, 5, 5]");
        value("datatype t = T of t ref | N in let val r = ref N in r := T r; r end",
            times("ref (T (", 9) + "ref (T #)" + times("))", 9));
        value("datatype t = A | B of t list in B [B [B [B [B [B [B [B [B [B [B [A]]]]]]]]]]]",
            times("B [", 10) + "#" + times("]", 10));
        StringBuilder decs = new StringBuilder("val x = 1 ");
        for (int k = 0; k < 25; k++) decs.append("val x = (x, x) ");
        LeanHouse house = new LeanHouse();
        read(house, decs + "in x");
        house.run(0, 10, 200);
        String written = told(house, 1);
        same("cut", written.length(), 1902);
        same("cut by ..", written.endsWith(".."), true);
        same("type cut", told(house, 0).length(), 1902);
        house = new LeanHouse();
        read(house, "fun f 0 = \"\" | f n = \"\\001\" ^ f (n - 1) in f 474 ^ \"ab\"");
        house.run(0, 20000, 4096);
        same("1900 bytes", told(house, 1).length(), 1900);
        same("no ..", told(house, 1).endsWith("ab\""), true);
        read(house, "fun f 0 = \"\" | f n = \"\\001\" ^ f (n - 1) in f 474 ^ \"abc\"");
        house.run(1, 20000, 4096);
        same("1901 bytes", told(house, 1).length(), 1902);
        same("with ..", told(house, 1).endsWith("abc.."), true);
    }

    private static void answersOfRuns() {
        LeanHouse house = new LeanHouse();
        same("read", read(house, "in (print \"ab\"; put 12; (3, 4))"), true);
        same("seen before a run", answer(() -> house.seen(0)), STATE);
        same("tell before a run", told(house, 1), STATE);
        for (int how : new int[] {-1, 3}) same("how", answer(() -> house.run(how, 1, 16)), ARGUMENT);
        for (int steps : new int[] {0, -1, 20001}) same("steps", answer(() -> house.run(0, steps, 16)), ARGUMENT);
        for (int heap : new int[] {15, 4097, -5}) same("heap", answer(() -> house.run(0, 1, heap)), ARGUMENT);
        same("no run yet", answer(() -> house.seen(4)), STATE);
        same("run", house.run(0, 20000, 4096), 0);
        same("seen", house.seen(0) + " " + house.seen(4), "2 5");
        same("seen 5", answer(() -> house.seen(5)), INDEX);
        same("seen -1", answer(() -> house.seen(-1)), INDEX);
        same("output", output(house), "ab12\n");
        same("byte -1", answer(() -> house.byteAt(-1)), INDEX);
        same("byte 5", answer(() -> house.byteAt(5)), INDEX);
        same("tell 2", answer(() -> house.tell(2)), INDEX);
        same("tell -1", answer(() -> house.tell(-1)), INDEX);
        same("value", told(house, 1), "(3, 4)");
        same("result -1", answer(() -> house.resultAt(-1)), INDEX);
        same("result 6", answer(() -> house.resultAt(6)), INDEX);
        same("a run that throws", answer(() -> house.run(0, 0, 16)), ARGUMENT);
        same("changes nothing", told(house, 1) + output(house), "(3, 4)ab12\n");
        same("steps", house.run(2, 1, 16), 2);
        same("no value", told(house, 1), STATE);
        same("result stays", answer(() -> house.resultAt(1)), "51");
        same("type", told(house, 0), "int * int");
        same("bad", read(house, "in"), false);
        same("output stays", output(house), "ab");
        same("result stays, too", answer(() -> house.resultAt(8)), "116");
        same("out of what is kept", read(house, "val r = ref 0 in while !r < 300 do (print \"1234567\"; r := !r + 1)"), true);
        house.run(1, 20000, 100);
        same("all bytes", house.seen(4), 2100);
        same("kept", output(house).length(), 2000);
        same("last", answer(() -> house.byteAt(1999)), "" + (int) "1234567".charAt(1999 % 7));
        same("not kept", answer(() -> house.byteAt(2000)), INDEX);
        read(house, "in 1");
        house.run(0, 1, 16);
        same("no output", answer(() -> house.byteAt(0)), INDEX);
    }

    public static void main(String[] args) {
        newObject();
        feedAndEnd();
        reading();
        inputs();
        tokens();
        grammar();
        manyThings();
        namesAndSuch();
        typing();
        valuedForms();
        running();
        values();
        answersOfRuns();
        System.out.println(checked + " answers looked at, " + wrong + " wrong");
        if (wrong != 0) System.exit(1);
    }
}
