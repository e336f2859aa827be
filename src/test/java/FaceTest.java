/** Promises 1 to 13 of the document: each call's answer, its edges, what it throws, and what it leaves as it was. */
public final class FaceTest extends Houses {
    private static final int LEAST = Integer.MIN_VALUE;
    private static final int MOST = Integer.MAX_VALUE;

    private static House fresh(String text) {
        House house = new House();
        same("read of " + text, house.read(text), true);
        return house;
    }

    /** "Promise 1: No program, no INPUT, an empty text." */
    private static void newObject() {
        same("NONE", LeanHouse.NONE, -1);
        same("count 0", new House().count(0), 0);
        same("count 1", new House().count(1), 0);
        same("count 2", new House().count(2), 0);
        same("take", new House().take(), 0);
        same("end 0", new House().end(0), 0);
        same("end 1", answer(() -> new House().end(1)), ARGUMENT);
        same("give", new House().give(7), 1);
        same("feed", new House().feed(1, 2, 3, 4, 5), 20);
        same("fault 0", new House().fault(0), 0);
        same("fault 1", new House().fault(1), LeanHouse.NONE);
        same("tell 0", answer(() -> new House().tell(0)), STATE);
        same("tell 1", answer(() -> new House().tell(1)), STATE);
        same("run", answer(() -> new House().run(0, 1, 16)), STATE);
        for (int what = 0; what < 5; what++) {
            int k = what;
            same("seen " + what, answer(() -> new House().seen(k)), STATE);
        }
        same("byteAt", answer(() -> new House().byteAt(0)), INDEX);
        same("resultAt", answer(() -> new House().resultAt(0)), INDEX);
        House house = new House();
        same("read", house.read(), false);
        same("fault", faultOf(house), "2 at 0");
        // Two objects have nothing of one another.
        House one = fresh("exception E in 1");
        House other = new House();
        one.give(1);
        one.feed(1, 2, 3, 4, 5);
        same("other", other.count(0) + " " + other.count(1) + " " + other.count(2), "0 0 0");
        same("one", one.count(0) + " " + one.count(1) + " " + one.count(2), "20 1 1");
    }

    /** "Promise 2: Twenty bytes more of the text, of each number the highest first .. there would be more than 8,192." */
    private static void feed() {
        House house = new House();
        // "in (1, 2, 3, 4, 5)  " in five numbers.
        same("feed", house.feed(0x696e2028, 0x312c2032, 0x2c20332c, 0x20342c20, 0x35292020), 20);
        same("read", house.read(), true);
        house.run(0, 1, 16);
        told("value", house, 1, "(1, 2, 3, 4, 5)", 30);
        // Bytes with the highest bit are bytes, too: here in a comment, and where they can't stand.
        same("feed", house.feed(0x696e2028, 0x2a80ff81, 0xfeffffff, 0xff2a2920, 0x31202020), 20);
        same("read", house.read(), true);
        same("feed", house.feed(0x696e2080, 0, 0, 0, 0), 20);
        same("read", house.read(), false);
        same("fault", faultOf(house), "1 at 3");
        for (int where = 0; where < 20; where++) {
            int[] row = {0x20202020, 0x20202020, 0x20202020, 0x20202020, 0x20202020};
            row[where / 4] ^= ('#' ^ ' ') << 24 - 8 * (where % 4);
            house.feed(row[0], row[1], row[2], row[3], row[4]);
            same("read", house.read(), false);
            same("fault", faultOf(house), "1 at " + where);
        }
        House full = new House();
        for (int k = 1; k <= 409; k++) same("feed", full.feed(0x20202020, 0x20202020, 0x20202020, 0x20202020, 0x20202020), 20 * k);
        same("too many", answer(() -> full.feed(0, 0, 0, 0, 0)), STATE);
        same("as it was", full.count(0), 8180);
        same("end", full.end(7), 8173);
        same("one too many", answer(() -> full.feed(0, 0, 0, 0, 0)), STATE);
        same("as it was", full.count(0), 8173);
        same("end", full.end(1), 8172);
        same("just full", full.feed(0x20202020, 0x20202020, 0x20202020, 0x20202020, 0x20696e31), 8192);
        same("too many", answer(() -> full.feed(0, 0, 0, 0, 0)), STATE);
        same("end 0", full.end(0), 8192);
        same("end 1", full.end(1), 8191);
        same("too many", answer(() -> full.feed(0, 0, 0, 0, 0)), STATE);
        same("read", full.read(), false);
        same("the whole text was read", faultOf(full), "2 at 8191");
        same("empty again", full.count(0), 0);
        same("feed", full.feed(0, 0, 0, 0, 0), 20);
    }

    /** "Promise 3: The last n bytes go again: how many are left .. n is not 0 .. 19, or there are not so many." */
    private static void end() {
        House house = new House();
        house.feed(0x696e2031, 0x32333435, 0x36373839, 0x20202020, 0x20202020);
        for (int n : new int[] {-1, 20, 21, LEAST, MOST, -19, 100}) same("end " + n, answer(() -> house.end(n)), ARGUMENT);
        same("as it was", house.count(0), 20);
        same("end 0", house.end(0), 20);
        same("end 14", house.end(14), 6);
        for (int n : new int[] {7, 8, 19}) same("end " + n, answer(() -> house.end(n)), ARGUMENT);
        same("as it was", house.count(0), 6);
        same("end 1", house.end(1), 5);
        same("read", house.read(), true);
        house.run(0, 1, 16);
        told("the first five bytes", house, 1, "12", 5);
        same("end 0", house.end(0), 0);
        same("end 1", answer(() -> house.end(1)), ARGUMENT);
        House other = new House();
        other.feed(0, 0, 0, 0, 0);
        same("end 19", other.end(19), 1);
        same("end 2", answer(() -> other.end(2)), ARGUMENT);
        same("end 1", other.end(1), 0);
        other.feed(0, 0, 0, 0, 0);
        other.feed(0, 0, 0, 0, 0);
        same("end 19", other.end(19), 21);
        same("end 19", other.end(19), 2);
        same("end 3", answer(() -> other.end(3)), ARGUMENT);
        same("end 2", other.end(2), 0);
        // What has gone does not come again with what is fed behind it.
        other.feed("in 9");
        other.end(1);
        other.feed("7 ");
        same("read", other.read(), true);
        other.run(0, 1, 16);
        told("value", other, 1, "7", 5);
    }

    /** "Promise 4: Reads the text (it is used up): whether it is a program; the one before is gone in any case." */
    private static void read() {
        House house = new House();
        same("good", house.read("exception E val x = 1 in (x, E)"), true);
        same("used up", house.count(0), 0);
        same("cons", house.count(2), 1);
        same("run", house.run(0, 10, 16), 0);
        same("read of nothing", house.read(), false);
        same("fault", faultOf(house), "2 at 0");
        same("cons", house.count(2), 0);
        same("run", answer(() -> house.run(0, 10, 16)), STATE);
        same("tell 0", answer(() -> house.tell(0)), STATE);
        same("tell 1", answer(() -> house.tell(1)), STATE);
        same("seen", answer(() -> house.seen(0)), STATE);
        String[] bad = {"#", "in", "in x", "exception E exception E in 1", "in 1 + true", "in (1 : list)", "in " + times("(", 41)};
        for (int k = 0; k < bad.length; k++) {
            same("good", house.read("exception F in 1"), true);
            same("run", house.run(1, 10, 16), 0);
            same("bad", house.read(bad[k]), false);
            same("fault", house.fault(0), k + 1);
            same("used up", house.count(0), 0);
            same("cons", house.count(2), 0);
            same("run", answer(() -> house.run(0, 10, 16)), STATE);
            same("tell 0", answer(() -> house.tell(0)), STATE);
            same("seen", answer(() -> house.seen(0)), STATE);
        }
        // Nothing that was declared before is known.
        same("good", house.read("exception E datatype t = A fun f x = x in 1"), true);
        for (String text : new String[] {"in E", "in A", "in (1 : t)", "in f"}) {
            same("read of " + text, house.read(text), false);
            same("fault", house.fault(0), NAME);
        }
        same("again", house.read("exception E datatype t = A fun f x = x in 1"), true);
        same("type", house.tell(0), 3);
    }

    /** Each read begins as new, whatever the programs before, and the faults in them, have left. */
    private static void readAgain() {
        String[][] pairs = {{"val x = 1 in x", "in \u00a7x"}, {"fun f y = y in f", "in \u00a7f"}, {"val rec f = fn y => y in f", "in \u00a7f"},
            {"exception E in 1", "in \u00a7E"}, {"datatype t = A in 1", "in (1 : \u00a7t)"}, {"datatype t = A of int in 1", "in fn (\u00a7t x) => x"},
            {"in fn x => x", "in \u00a7x"}, {"in fn (x, y) => \u00a7z", "in \u00a7x"}, {"in fn x => fn y => x \u00a7+ true", "in (\u00a7x, y)"},
            {"datatype t = A of \u00a7u", "in (1 : \u00a7t)"}, {"exception E of \u00a7u in 1", "in \u00a7E"}, {"in let val x = 1 in \u00a7y end", "in \u00a7x"}};
        for (String[] pair : pairs) {
            House house = new House();
            house.read(pair[0].replace("\u00a7", ""));
            same("read of " + pair[1], house.read(pair[1].replace("\u00a7", "")), false);
            same("fault of " + pair[1] + " behind " + pair[0], faultOf(house), "3 at " + pair[1].indexOf('\u00a7'));
        }
        String deep = "in " + times("fn x=>", 39) + "y";
        String[] left = {deep, deep, deep, "in " + times("(", 40) + "#", "in " + times("[", 41), "in 1" + times("+(1", 39), "val x = " + times("let val x = ", 39) + "y",
            "fun f x = case x of (y, (z, 1 + true", "datatype ('a, 'b) t = A of 'a and u = B of 'b", "in 1 andalso 2 orelse fn x => y", "in (1, 2, true + 1, 2", "in 1 :: 2 :: 3 ::"};
        String good = "val a = 1 fun f x y = fn z => (a, x, y, z) fun g 0 = nil | g n = f n n n :: g (n - 1) in g 2";
        House house = new House();
        for (int k = 0; k < left.length; k++) same("read of " + left[k], house.read(left[k]), false);
        same("good", house.read(good), true);
        told("type", house, 0, "(int * int * int * int) list", 30);
        for (int how : hows()) {
            same("run", house.run(how, 100, 200), 0);
            told("value", house, 1, "[(1, 2, 2, 2), (1, 1, 1, 1)]", 30);
            same("steps", house.seen(0), 9);
        }
        House waiting = new House();
        for (int k = 0; k < 27; k++) same("read", waiting.read("in " + times("1::", 42)), false);
        same("good", waiting.read("in (1+2*3=7 andalso 2*3+1=7,1::2+3*4::nil)"), true);
        waiting.run(0, 1, 16);
        told("value", waiting, 1, "(true, [1, 14])", 20);
        // Programs with many names, one behind the other.
        StringBuilder names = new StringBuilder("in");
        for (int k = 0; k < 1950; k++) names.append(' ').append((char) ('a' + k / 260)).append((char) ('A' + k % 26)).append(k / 26 % 10);
        House named = new House();
        same("read", named.read(names.substring(0, 7800)), false);
        same("fault", faultOf(named), "3 at 3");
        same("read", named.read(names.substring(0, 1200).toUpperCase().replace("IN ", "in ")), false);
        same("good", named.read("val zz1=1 val zz2=(2,zz1)in(zz1,zz2)"), true);
        told("type", named, 0, "int * (int * int)", 20);
        // Programs with many types, one behind the other.
        String many = "val y=(" + times("nil,", 29) + "nil)in(" + times("y;", 780) + "y)";
        House types = new House();
        for (int k = 0; k < 5; k++) same("read", types.read(many), true);
        same("good", types.read("in fn x=>(x,x)"), true);
        told("type", types, 0, "'a -> 'a * 'a", 20);
        same("fault", types.read("in 1+true") + faultOf(types), "false5 at 4");
    }

    /** "Promise 5: The latest read()'s fault (what 0; 0 none), its place (1; NONE) .. another what." */
    private static void fault() {
        House house = new House();
        for (int what : new int[] {-1, 2, 3, LEAST, MOST}) same("fault " + what, answer(() -> house.fault(what)), INDEX);
        house.read("in 1 + true");
        same("fault", faultOf(house), "5 at 5");
        for (int what : new int[] {-1, 2, LEAST, MOST}) same("fault " + what, answer(() -> house.fault(what)), INDEX);
        house.feed("in 1");
        same("fault of the latest read", faultOf(house), "5 at 5");
        house.read();
        same("no fault", faultOf(house), "0 at -1");
        house.read("#");
        same("fault", faultOf(house), "1 at 0");
        house.read("in 1");
        same("no fault", house.fault(1), LeanHouse.NONE);
        same("no fault", house.fault(0), 0);
    }

    /** "Promise 6: A number more for the INPUT (of which the lowest 31 bits count) .. Promise 7: No INPUT any more". */
    private static void input() {
        House house = fresh("in (given 0, given 1, given 2, given 3, given 4, given 5, given 6)");
        int[] given = {0x3fffffff, 0x40000000, 0x7fffffff, 0x80000000, 0xbfffffff, 0xc0000000, -1};
        String[] due = {"1073741823", "~1073741824", "~1", "0", "1073741823", "~1073741824", "~1"};
        for (int k = 0; k < 7; k++) same("give", house.give(given[k]), k + 1);
        for (int how : hows()) {
            same("run", house.run(how, 10, 16), 0);
            told("given", house, 1, "(" + String.join(", ", due) + ")", 100);
        }
        same("take", house.take(), 7);
        same("take", house.take(), 0);
        same("count", house.count(1), 0);
        for (int how : hows()) {
            same("run", house.run(how, 10, 16), 1);
            told("raised", house, 1, "Subscript", 12);
        }
        same("give", house.give(5), 1);
        House other = fresh("in (given 0, given 99, many ())");
        for (int k = 1; k <= 100; k++) same("give", other.give(k * 3), k);
        for (int n : new int[] {0, 1, -1, LEAST, MOST}) same("give", answer(() -> other.give(n)), STATE);
        same("as it was", other.count(1), 100);
        for (int how : hows()) {
            other.run(how, 10, 16);
            told("given", other, 1, "(3, 300, 100)", 20);
        }
        // It stays through read() and run(), and can be given and taken without a program.
        same("read", other.read("in given 50"), true);
        same("run", other.run(0, 10, 16), 0);
        told("given", other, 1, "153", 5);
        same("read", other.read("#"), false);
        same("count", other.count(1), 100);
        same("take", other.take(), 100);
        same("give", other.give(1), 1);
        same("take", other.take(), 1);
        // A run sees the INPUT as it is then.
        same("read", other.read("in many ()"), true);
        other.run(0, 1, 16);
        other.give(8);
        told("of the run", other, 1, "0", 5);
        other.run(1, 1, 16);
        told("of the next run", other, 1, "1", 5);
    }

    /** "Promise 8: Runs the program: how it ends .. how is not 0 .. 2, steps not 1 .. 20,000, heap not 16 .. 4,096; .. no program." */
    private static void run() {
        House none = new House();
        House house = fresh("in (print \"a\"; 1)");
        for (House one : new House[] {none, house}) {
            for (int how : new int[] {-1, 3, LEAST, MOST}) same("how " + how, answer(() -> one.run(how, 1, 16)), ARGUMENT);
            for (int how : hows()) {
                int way = how;
                for (int steps : new int[] {0, -1, 20001, LEAST, MOST}) same("steps " + steps, answer(() -> one.run(way, steps, 16)), ARGUMENT);
                for (int heap : new int[] {15, 0, -1, 4097, LEAST, MOST}) same("heap " + heap, answer(() -> one.run(way, 1, heap)), ARGUMENT);
                same("all", answer(() -> one.run(way, 0, 0)), ARGUMENT);
            }
        }
        for (int how : hows()) {
            int way = how;
            same("no program", answer(() -> none.run(way, 1, 16)), STATE);
            same("no program", answer(() -> none.run(way, 20000, 4096)), STATE);
        }
        same("no run yet", answer(() -> house.seen(0)), STATE);
        for (int how : hows()) {
            same("least", house.run(how, 1, 16), 0);
            same("most", house.run(how, 20000, 4096), 0);
            same("steps", house.run(how, 20000, 16), 0);
            same("heap", house.run(how, 1, 4096), 0);
        }
        // "a call that throws changes nothing".
        same("run", house.run(0, 20, 100), 0);
        house.tell(1);
        for (int[] wrong : new int[][] {{3, 1, 16}, {0, 0, 16}, {1, 20001, 16}, {2, 1, 15}, {0, 1, 4097}}) {
            same("wrong", answer(() -> house.run(wrong[0], wrong[1], wrong[2])), ARGUMENT);
            same("seen", house.seen(0) + " " + house.seen(2) + " " + house.seen(3) + " " + house.seen(4), "1 2 2 1");
            same("output", house.byteAt(0), (int) 'a');
            same("result", house.resultAt(0), (int) '1');
        }
        // A run begins as new each time, whatever the one before has left.
        House counts = fresh("val r = ref 0 fun f n = (r := !r + 1; put (!r); if n = 0 then !r else f (n - 1)) in f 3");
        for (int n = 0; n < 6; n++) {
            int how = n % 3;
            same("run", counts.run(how, 100, 64), 0);
            told("value", counts, 1, "4", 3);
            same("output", counts.seen(4), 8);
            same("by few steps", counts.run((how + 1) % 3, 5, 64), 2);
            same("by a small heap", counts.run((how + 2) % 3, 100, 16), 0);
        }
        // A handle that was open when a run was ended is so no more.
        House handles = fresh("in ((while many () = 0 do ()) handle _ => (); (put 1; 1 div 0))");
        for (int n = 0; n < 6; n++) {
            for (int how : hows()) {
                same("ended in a handle", handles.run(how, 50, 16), 2);
                handles.give(1);
                same("raised", handles.run((how + n) % 3, 50, 16), 1);
                same("tell", handles.tell(1), 3);
                handles.take();
            }
        }
        ends();
    }

    /** Each end by each how, and what is seen of it. */
    private static void ends() {
        String[] texts = {"in 1", "in raise Div", "in while true do 1", "in (1, 2, 3, 4, 5, 6, 7, 8, 9, 10, 11, 12, 13, 14, 15, 16)", "fun f n = 1 + f n in f 1"};
        House house = new House();
        for (int end = 0; end < 5; end++) {
            int due = end;
            same("read", house.read(texts[end]), true);
            for (int how : hows()) {
                same("end " + end + ", how " + how, house.run(how, 5000, 16), due);
                same("tell", answer(() -> house.tell(1)), due == 0 ? "1" : due == 1 ? "3" : STATE);
                same("type", answer(() -> house.tell(0)).length() < 3, true);
                same("seen", house.seen(0) <= 5000, true);
            }
        }
    }

    /** "Promise 9: Of the latest run: STEPS .. COLLECTIONS .. words .. the greatest PILE .. bytes of OUTPUT". */
    private static void seen() {
        House none = new House();
        House house = fresh("in (put 12; ref (\"abcd\" ^ \"e\"); (1, 2, 3))");
        for (House one : new House[] {none, house}) {
            for (int what : new int[] {-1, 5, 6, LEAST, MOST}) same("seen " + what, answer(() -> one.seen(what)), INDEX);
            for (int what = 0; what < 5; what++) {
                int k = what;
                same("seen " + what, answer(() -> one.seen(k)), STATE);
            }
        }
        for (int how : hows()) {
            house.run(how, 100, 100);
            String all = "";
            for (int k = 0; k < 5; k++) all += " " + house.seen(k);
            same("seen", all, " 2 0 13 3 3");
            house.run(how, 100, 16);
            all = "";
            for (int k = 0; k < 5; k++) all += " " + house.seen(k);
            same("seen", all, " 2 0 13 3 3");
            for (int what : new int[] {-1, 5, LEAST, MOST}) same("seen " + what, answer(() -> house.seen(what)), INDEX);
        }
        house.feed("in 1");
        same("till the next read", house.seen(2), 13);
        house.read();
        same("none since", answer(() -> house.seen(2)), STATE);
        house.run(0, 1, 16);
        same("since", house.seen(2), 0);
        house.read("#");
        same("none since", answer(() -> house.seen(2)), STATE);
    }

    /** "(4; the first 2,000 are kept)" and "Promise 10: Byte k of the OUTPUT (it stays till the next run()) .. none was kept." */
    private static void output() {
        for (int bytes : new int[] {1999, 2000, 2001, 2002, 2047, 5000}) {
            House house = fresh("val i = ref 0 val s = \"abcdefghij\" in (while !i < " + bytes / 10 + " do (print s; i := !i + 1); print \""
                + "0123456789".substring(0, bytes % 10) + "\")");
            for (int how : hows()) {
                same("run", house.run(how, STEPS_MOST, HEAP_MOST), 0);
                same("bytes", house.seen(4), bytes);
                int kept = Math.min(bytes, 2000);
                for (int k : new int[] {0, 1, 1000, 1990, 1998, kept - 1}) {
                    int due = k < bytes / 10 * 10 ? 'a' + k % 10 : '0' + k % 10;
                    same("byte " + k + " of " + bytes, house.byteAt(k), due);
                }
                for (int k : new int[] {kept, kept + 1, -1, LEAST, MOST}) same("byte " + k + " of " + bytes, answer(() -> house.byteAt(k)), INDEX);
            }
        }
        // A print and a put across the 2,000th byte.
        House house = fresh("val i = ref 0 in (while !i < 199 do (print \"abcdefghij\"; i := !i + 1); print \"1234567\"; put ~1073741824; put 5; !i)");
        for (int how : hows()) {
            house.run(how, STEPS_MOST, HEAP_MOST);
            same("bytes", house.seen(4), 1990 + 7 + 12 + 2);
            same("last", "" + (char) house.byteAt(1996) + (char) house.byteAt(1997) + (char) house.byteAt(1998) + (char) house.byteAt(1999), "7~10");
            told("value", house, 1, "199", 5);
        }
        House small = new House();
        same("none", answer(() -> small.byteAt(0)), INDEX);
        small.read("in print \"\\000\\255a\"");
        same("none", answer(() -> small.byteAt(0)), INDEX);
        small.run(0, 5, 16);
        same("bytes", small.byteAt(0) + " " + small.byteAt(1) + " " + small.byteAt(2), "0 255 97");
        same("byte 3", answer(() -> small.byteAt(3)), INDEX);
        // "(it stays till the next run())".
        small.read("in 1");
        same("stays", small.byteAt(1), 255);
        small.read("#");
        same("stays", small.byteAt(2), 97);
        same("no run", answer(() -> small.run(0, 1, 16)), STATE);
        same("stays", small.byteAt(0), 0);
        small.read("in 1");
        small.tell(0);
        same("no run", answer(() -> small.run(5, 1, 16)), ARGUMENT);
        same("stays", small.byteAt(2), 97);
        small.run(0, 1, 16);
        same("gone", answer(() -> small.byteAt(0)), INDEX);
        // What a run puts out that does not end by a VALUE is there, too.
        small.read("in (print \"ab\"; raise Div)");
        same("raised", small.run(1, 5, 16), 1);
        same("bytes", small.seen(4) + " " + small.byteAt(1), "2 98");
        small.read("in (print \"cd\"; while true do ())");
        same("steps", small.run(2, 5, 16), 2);
        same("bytes", small.seen(4) + " " + small.byteAt(1), "2 100");
    }

    /** "Promise 11: The RESULT becomes the type of the program's EXP (what 0), or what the latest run came to (1 ..)". */
    private static void tell() {
        House none = new House();
        for (int what : new int[] {-1, 2, LEAST, MOST}) same("tell " + what, answer(() -> none.tell(what)), INDEX);
        same("no program", answer(() -> none.tell(0)), STATE);
        same("no program", answer(() -> none.tell(1)), STATE);
        House house = fresh("exception E of int in if many () = 0 then (1, true) else raise E 5");
        for (int what : new int[] {-1, 2, LEAST, MOST}) same("tell " + what, answer(() -> house.tell(what)), INDEX);
        same("no run", answer(() -> house.tell(1)), STATE);
        same("type", house.tell(0), 10);
        told("type", house, 0, "int * bool", 20);
        same("run", house.run(0, 10, 16), 0);
        told("value", house, 1, "(1, true)", 20);
        told("type", house, 0, "int * bool", 20);
        house.give(1);
        same("run", house.run(1, 10, 16), 1);
        told("exception", house, 1, "E 5", 20);
        same("run", house.run(2, 1, 16), 2);
        same("neither", answer(() -> house.tell(1)), STATE);
        told("type", house, 0, "int * bool", 20);
        same("run", house.run(0, 2, 16), 1);
        told("exception", house, 1, "E 5", 20);
        house.feed("in true");
        told("the program's", house, 1, "E 5", 20);
        house.read();
        same("no run", answer(() -> house.tell(1)), STATE);
        told("type", house, 0, "bool", 20);
        house.read("in");
        same("no program", answer(() -> house.tell(0)), STATE);
        same("no program", answer(() -> house.tell(1)), STATE);
        same("another what", answer(() -> house.tell(2)), INDEX);
        // A value that has been told stays as the run left it.
        House kept = fresh("val r = ref 1 in (r := 2; (r, \"ab\"))");
        for (int how : hows()) {
            kept.run(how, 10, 16);
            told("value", kept, 1, "(ref 2, \"ab\")", 20);
            told("value again", kept, 1, "(ref 2, \"ab\")", 20);
        }
    }

    /** "Promise 12: Byte k of the RESULT (it stays till the next tell()) .. there is none." */
    private static void resultAt() {
        House house = fresh("in \"\\255\"");
        same("none yet", answer(() -> house.resultAt(0)), INDEX);
        house.run(0, 1, 16);
        same("none yet", answer(() -> house.resultAt(0)), INDEX);
        same("tell", house.tell(1), 6);
        String text = "\"\\255\"";
        for (int k = 0; k < 6; k++) same("byte " + k, house.resultAt(k), (int) text.charAt(k));
        for (int k : new int[] {6, 7, -1, LEAST, MOST}) same("byte " + k, answer(() -> house.resultAt(k)), INDEX);
        // "(it stays till the next tell())": also behind one that throws.
        same("tell", answer(() -> house.tell(2)), INDEX);
        same("stays", house.resultAt(5), (int) '"');
        house.run(0, 1, 16);
        same("stays", house.resultAt(1), (int) '\\');
        house.read("in 12");
        same("stays", house.resultAt(2), (int) '2');
        same("tell", answer(() -> house.tell(1)), STATE);
        same("stays", house.resultAt(5), (int) '"');
        house.read("#");
        same("tell", answer(() -> house.tell(0)), STATE);
        same("stays", house.resultAt(5), (int) '"');
        house.read("in 12");
        house.run(0, 1, 16);
        same("tell", house.tell(1), 2);
        same("bytes", house.resultAt(0) * 100 + house.resultAt(1), '1' * 100 + '2');
        same("byte 2", answer(() -> house.resultAt(2)), INDEX);
        same("tell", house.tell(0), 3);
        same("bytes", house.resultAt(0) + house.resultAt(1) + house.resultAt(2), 'i' + 'n' + 't');
        same("byte 3", answer(() -> house.resultAt(3)), INDEX);
        House cut = fresh("fun f 0 = nil | f n = n :: f (n - 1) in f 600");
        cut.run(0, STEPS_MOST, HEAP_MOST);
        same("cut", cut.tell(1), 1902);
        same("byte 1900", cut.resultAt(1900), (int) '.');
        same("byte 1901", cut.resultAt(1901), (int) '.');
        same("byte 1902", answer(() -> cut.resultAt(1902)), INDEX);
    }

    /** "Promise 13: Bytes of the text (what 0), numbers of the INPUT (1), constructors and exceptions of the program .. (2)". */
    private static void count() {
        House house = new House();
        for (int what : new int[] {-1, 3, 4, LEAST, MOST}) same("count " + what, answer(() -> house.count(what)), INDEX);
        house.feed(1, 2, 3, 4, 5);
        house.feed(1, 2, 3, 4, 5);
        house.end(3);
        same("bytes", house.count(0), 37);
        house.read();
        same("bytes", house.count(0), 0);
        house.give(1);
        house.give(1);
        same("numbers", house.count(1), 2);
        house.take();
        same("numbers", house.count(1), 0);
        String[] texts = {"in 1", "exception E in 1", "exception E of int exception F in 1", "datatype t = A | B of int | C in 1",
            "datatype t = A and u = B | C exception E val x = 1 datatype v = D in 1", "val A = 1 fun B x = 2 in 1"};
        int[] due = {0, 1, 2, 3, 5, 0};
        for (int k = 0; k < texts.length; k++) {
            same("read", house.read(texts[k]), true);
            same("constructors of " + texts[k], house.count(2), due[k]);
            house.run(0, 1, 16);
            same("constructors of " + texts[k], house.count(2), due[k]);
        }
        StringBuilder most = new StringBuilder("datatype t = A0");
        for (int k = 1; k < 60; k++) most.append(" | A").append(k);
        same("read", house.read(most + " in 1"), true);
        same("constructors", house.count(2), 60);
        same("read", house.read("exception E exception F in x"), false);
        same("no program", house.count(2), 0);
        for (int what : new int[] {-1, 3, LEAST, MOST}) same("count " + what, answer(() -> house.count(what)), INDEX);
    }

    /** "An object is used for at most 512 calls after it has been made": all of them are answered as promised. */
    private static void wholeLife() {
        House house = new House();
        String text = "val r = ref 0 in (while !r < 3 do (r := !r + 1; put (!r)); [!r, many ()])";
        int turn = 0;
        while (house.callsLeft() >= House.feeds(text) + 32) {
            same("give", house.give(turn), turn + 1);
            same("read", house.read(text), true);
            for (int how : hows()) {
                same("run", house.run(how, 100, 16), 0);
                same("steps", house.seen(0), 1 + 4 + 4 + 3 * 3 + 1 + 1);
                same("byte", house.byteAt(4), (int) '3');
                told("value", house, 1, "[3, " + (turn + 1) + "]", 6);
            }
            turn++;
        }
        same("turns", turn > 10, true);
        while (house.callsLeft() > 1) same("count", house.count(1), turn);
        same("the last call", house.take(), turn);
        same("calls left", house.callsLeft(), 0);
    }

    public static void main(String[] args) {
        newObject();
        feed();
        end();
        read();
        readAgain();
        fault();
        input();
        run();
        seen();
        output();
        tell();
        resultAt();
        count();
        wholeLife();
        finish("the face");
    }
}
