import java.util.function.UnaryOperator;
import java.util.regex.Matcher;
import java.util.regex.Pattern;

/**
 * Types that are as deep and as wide as 2,000 tokens allow: what is written of them, which are equal,
 * and which can't be. A function f gives T of its argument's type to what it is given next, so
 * f 0 f .. f holds as many T in one another as f stands there.
 */
public final class LeanHouseDeepTypesTest extends Houses {
    private static final int WRITTEN_MOST = 1900;
    private static final int TOKENS_MOST = 2000;
    private static final Pattern TOKEN = Pattern.compile("'?[A-Za-z][A-Za-z0-9_']*|[0-9]+|->|=>|\"[^\"]*\"|\\S");

    /** A type of the test's own: "->", "*" or a NAME with what stands ahead of it; a variable is a NAME. */
    private static final class Tree {
        final String kind;
        final Tree[] parts;

        Tree(String kind, Tree... parts) {
            this.kind = kind;
            this.parts = parts;
        }
    }

    private static final Tree INT = new Tree("int");

    /** Writes the type, in ( ) where the document has them; stops some time behind so many bytes. */
    private static void write(Tree t, StringBuilder s, int most) {
        if (s.length() > most) return;
        if (t.kind.equals("->")) {
            around(t.parts[0], s, most, t.parts[0].kind.equals("->"));
            s.append(" -> ");
            write(t.parts[1], s, most);
        } else if (t.kind.equals("*")) {
            for (int k = 0; k < t.parts.length; k++) {
                if (k > 0) s.append(" * ");
                around(t.parts[k], s, most, t.parts[k].kind.equals("->") || t.parts[k].kind.equals("*"));
            }
        } else if (t.parts.length == 1) {
            around(t.parts[0], s, most, t.parts[0].kind.equals("->") || t.parts[0].kind.equals("*"));
            s.append(' ').append(t.kind);
        } else {
            if (t.parts.length > 1) s.append('(');
            for (int k = 0; k < t.parts.length; k++) {
                if (k > 0) s.append(", ");
                write(t.parts[k], s, most);
            }
            if (t.parts.length > 1) s.append(") ");
            s.append(t.kind);
        }
    }

    private static void around(Tree t, StringBuilder s, int most, boolean round) {
        if (round) s.append('(');
        write(t, s, most);
        if (round) s.append(')');
    }

    private static String written(Tree t) {
        StringBuilder s = new StringBuilder();
        write(t, s, WRITTEN_MOST);
        return s.length() <= WRITTEN_MOST ? s.toString() : s.substring(0, WRITTEN_MOST) + "..";
    }

    private static void type(String what, String text, Tree due) {
        House house = new House();
        if (!house.read(text)) {
            same(what, "fault " + faultOf(house) + " of " + text, "a type");
            return;
        }
        for (int turn = 0; turn < 2; turn++) told(what + " told " + turn, house, 0, written(due), house.callsLeft() / (2 - turn) - 2);
    }

    /** The place is where the mark stands, which is taken out. */
    private static void fault(String what, int fault, String marked) {
        int place = marked.indexOf('\u00a7');
        House house = new House();
        same(what, house.read(marked.substring(0, place) + marked.substring(place + 1)), false);
        same(what + " fault", faultOf(house), fault + " at " + place);
    }

    private static int tokens(String text) {
        Matcher m = TOKEN.matcher(text);
        int n = 0;
        while (m.find()) n++;
        return n;
    }

    /** How many more f the text can take. */
    private static int room(String text) {
        return TOKENS_MOST - tokens(text);
    }

    private static String fs(int n) {
        return " f".repeat(n);
    }

    private static String varNames(int wide) {
        StringBuilder s = new StringBuilder("'v0");
        for (int k = 1; k < wide; k++) s.append(",'v").append(k);
        return wide > 1 ? "(" + s + ")" : s.toString();
    }

    private static String head(int wide, UnaryOperator<Tree> shape) {
        StringBuilder s = new StringBuilder();
        write(shape.apply(new Tree("'a")), s, 100000);
        return "datatype " + varNames(wide) + " t = C fun f (x : 'a) k = k ((raise Match) : " + s + ") in ";
    }

    private static Tree wrapped(UnaryOperator<Tree> shape, Tree base, int n) {
        Tree t = base;
        for (int k = 0; k < n; k++) t = shape.apply(t);
        return t;
    }

    private static Tree given(Tree t) {
        Tree a = new Tree("'a");
        return new Tree("->", new Tree("->", t, a), a);
    }

    /** NAME of so many types, of which the inner one stands at some places and int at the others. */
    private static Tree filled(String name, int wide, Tree inner, int from, int to) {
        Tree[] parts = new Tree[wide];
        for (int k = 0; k < wide; k++) parts[k] = k >= from && k <= to ? inner : INT;
        return new Tree(name, parts);
    }

    private static void deep(String what, int wide, UnaryOperator<Tree> shape) {
        String head = head(wide, shape);
        String held = " (fn v => v)";
        int n = room(head + "f 0");
        type(what + " given", head + "f 0" + fs(n), given(wrapped(shape, INT, n + 1)));
        fault(what + " too many", 7, head + "f 0" + fs(n) + " \u00a7f");
        n = room(head + "f 0" + held);
        type(what + " held", head + "f 0" + fs(n) + held, wrapped(shape, INT, n + 1));
        n = room(head + "let val g = f 0" + held + " in g end");
        type(what + " of val", head + "let val g = f 0" + fs(n) + held + " in g end", wrapped(shape, INT, n + 1));
        n = room(head + "let fun g () = f 0" + held + " in g () end");
        type(what + " of fun", head + "let fun g () = f 0" + fs(n) + held + " in g () end", wrapped(shape, INT, n + 1));
        type(what + " short", head + "f 0" + held, shape.apply(INT));
        open(what, head, shape);
        equals(what, head, room(head + "fn z => [f z" + held + ", f 0" + held + "]") / 2, shape);
    }

    /** With a type that is not known at the end of it. */
    private static void open(String what, String head, UnaryOperator<Tree> shape) {
        Tree a = new Tree("'a");
        Tree b = new Tree("'b");
        String held = " (fn v => v)";
        int n = room(head + "fn z => f z");
        Tree of = wrapped(shape, a, n + 1);
        type(what + " open", head + "fn z => f z" + fs(n), new Tree("->", a, new Tree("->", new Tree("->", of, b), b)));
        n = room(head + "fn z => (f z; z + 1)");
        type(what + " known late", head + "fn z => (f z" + fs(n) + "; z + 1)", new Tree("->", INT, INT));
        n = room(head + "fn z => [z, f z" + held + "]");
        fault(what + " within itself", 5, head + "fn z => [z, \u00a7f z" + fs(n) + held + "]");
        n = room(head + "let fun g z = f z" + held + " in 0 end");
        fault(what + " general", 7, head + "let fun \u00a7g z = f z" + fs(n) + held + " in 0 end");
    }

    private static void equals(String what, String head, int n, UnaryOperator<Tree> shape) {
        String held = " (fn v => v)";
        Tree list = new Tree("list", wrapped(shape, INT, n + 1));
        String one = "f 0" + fs(n) + held;
        type(what + " two", head + "[" + one + ", " + one + "]", list);
        type(what + " two, open", head + "fn z => [f z" + fs(n) + held + ", f 0" + fs(n) + held + "]", new Tree("->", INT, list));
        fault(what + " two that differ", 5, head + "[" + one + ", \u00a7f true" + fs(n) + held + "]");
        fault(what + " two not as deep", 5, head + "[" + one + ", \u00a7f 0" + fs(n + 1) + held + "]");
    }

    private static void named() {
        deep("t of 93, all", 93, t -> filled("t", 93, t, 0, 92));
        deep("t of 93, the first", 93, t -> filled("t", 93, t, 0, 0));
        deep("t of 93, the last", 93, t -> filled("t", 93, t, 92, 92));
        deep("t of 2, the first", 2, t -> filled("t", 2, t, 0, 0));
        deep("t of 2, both", 2, t -> filled("t", 2, t, 0, 1));
        deep("lists, 40 deep", 1, t -> wrapped(u -> new Tree("list", u), t, 40));
    }

    private static void plain() {
        deep("product, the first", 1, t -> filled("*", 30, t, 0, 0));
        deep("product, the last", 1, t -> filled("*", 30, t, 29, 29));
        deep("product, all", 1, t -> filled("*", 30, t, 0, 29));
        deep("pair, both", 1, t -> filled("*", 2, t, 0, 1));
        deep("function of it", 1, t -> new Tree("->", t, INT));
        deep("function to it", 1, t -> new Tree("->", INT, t));
        deep("functions, 38 deep", 1, t -> wrapped(u -> new Tree("->", u, INT), t, 37));
        deep("refs of functions of pairs", 1, t -> new Tree("ref", new Tree("->", new Tree("*", INT, t), t)));
        deep("t of functions and pairs", 2, t -> new Tree("t", new Tree("->", t, INT), new Tree("*", INT, t)));
    }

    /** All around the greatest that is written whole, that of 1,900 bytes among them. */
    private static void edges() {
        for (int n = 370; n <= 383; n++) {
            edge(n, "0", INT);
            edge(n, "true", new Tree("bool"));
            edge(n, "\"\"", new Tree("string"));
            edge(n, "(0, ref 0)", new Tree("*", INT, new Tree("ref", INT)));
            edge(n, "(fn v => v + 1)", new Tree("->", INT, INT));
        }
    }

    private static void edge(int n, String base, Tree of) {
        UnaryOperator<Tree> list = t -> new Tree("list", t);
        type("at the edge " + n + base, head(1, list) + "f " + base + fs(n) + " (fn v => v)", wrapped(list, of, n + 1));
    }

    /** So many variables that letters are used again, with numbers. */
    private static void variables() {
        StringBuilder text = new StringBuilder("fun f x = f x in (");
        Tree[] groups = new Tree[21];
        for (int g = 0; g < groups.length; g++) {
            Tree[] parts = new Tree[30];
            text.append(g > 0 ? ",(" : "(");
            for (int k = 0; k < 30; k++) {
                int n = g * 30 + k;
                parts[k] = new Tree("'" + (char) ('a' + n % 26) + (n < 26 ? "" : "" + n / 26));
                text.append(k > 0 ? ",f 0" : "f 0");
            }
            text.append(')');
            groups[g] = new Tree("*", parts);
        }
        type("many variables", text.append(")").toString(), new Tree("*", groups));
    }

    public static void main(String[] args) throws InterruptedException {
        Thread thread = new Thread(null, () -> {
            named();
            plain();
            edges();
            variables();
        }, "deep", 1L << 29);
        thread.start();
        thread.join();
        finish("deep types");
    }
}
