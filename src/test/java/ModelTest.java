import java.util.ArrayList;
import java.util.List;

/**
 * Programs made by rule from a seed, all well typed, run by the model and by all three ways of the
 * house: how they end, what is put out and told, steps, collections, words and pile must be the same.
 */
public final class ModelTest extends Houses {
    private static final int INT = 0, BOOL = 1, STRING = 2, UNIT = 3, LIST = 4, PAIR = 5, REF = 6, TREE = 7, FUN = 8, FUN2 = 9, TYPES = 10;
    private static final String[] WRITTEN = {"int", "bool", "string", "unit", "int list", "int * string", "int ref", "tree", "int -> int", "int -> int -> int"};
    private static final Model.Plain LEAF = new Model.Plain("Leaf", false);
    private static final Model.Plain BAD = new Model.Plain("Bad", false);
    private static final int[] INPUT = {5, -3, 1 << 30, 0};

    /** A function that may call itself, with one less than its first argument. */
    private record Self(String name, String counter, int atpats) {
    }

    private long seed;
    private int names;
    private final List<String> scope = new ArrayList<>();
    private final List<Integer> types = new ArrayList<>();
    private final List<Self> selves = new ArrayList<>();

    private ModelTest(long seed) {
        this.seed = seed;
    }

    private int below(int n) {
        seed = seed * 6364136223846793005L + 1442695040888963407L;
        return (int) ((seed >>> 33) % n);
    }

    private String fresh(int type) {
        String name = "v" + names++;
        scope.add(name);
        types.add(type);
        return name;
    }

    private void forget(int size) {
        while (scope.size() > size) {
            scope.remove(scope.size() - 1);
            types.remove(types.size() - 1);
        }
    }

    private Tree number(int n) {
        return Tree.constant(n < 0 ? " " + Model.number(n) : Model.number(n), n);
    }

    private static Tree plain(String name, boolean isFunction) {
        return Tree.constant(name, new Model.Plain(name, isFunction));
    }

    private static Tree truth(boolean is) {
        return Tree.constant("" + is, is ? Model.TRUE : Model.FALSE);
    }

    private static Tree known(String name, Tree argument) {
        return Tree.apply(plain(name, true), argument);
    }

    private Tree variable(int type) {
        List<String> fit = new ArrayList<>();
        for (int k = 0; k < scope.size(); k++) if (types.get(k) == type) fit.add(scope.get(k));
        return fit.isEmpty() ? null : Tree.name(fit.get(below(fit.size())));
    }

    private Tree leaf(int type) {
        Tree v = below(4) > 0 ? variable(type) : null;
        if (v != null) return v;
        int[] some = {0, 1, 2, 3, 7, -1, -2, 255, 256, 1073741823, -1073741824};
        switch (type) {
            case INT: return number(below(3) == 0 ? some[below(some.length)] : below(6));
            case BOOL: return truth(below(2) == 0);
            case STRING: return Tree.string("abcdefghijk".substring(0, below(10)));
            case UNIT: return Tree.constant("()", Model.UNIT);
            case LIST: return below(2) == 0 ? Tree.constant("nil", Model.NIL) : Tree.list(number(below(9)), number(below(9)));
            case PAIR: return Tree.tuple(number(below(9)), Tree.string("xy"));
            case REF: return known("ref", number(below(9)));
            case TREE: return below(2) == 0 ? Tree.constant("Leaf", LEAF) : known("Node", Tree.tuple(Tree.constant("Leaf", LEAF), number(below(9)), Tree.constant("Leaf", LEAF)));
            case FUN: return below(2) == 0 ? Tree.constant("~", new Model.Plain("~", true)) : function(0);
            default: return function2(0);
        }
    }

    private Tree function(int depth) {
        int size = scope.size();
        List<Tree.Rule> rules = new ArrayList<>();
        int most = below(3);
        for (int k = 0; k < most; k++) rules.add(new Tree.Rule(new Tree.Pat[] {Tree.constant((Object) below(4))}, exp(INT, depth)));
        if (most == 0 || below(6) > 0) rules.add(new Tree.Rule(new Tree.Pat[] {below(4) > 0 ? Tree.variable(fresh(INT)) : Tree.any()}, exp(INT, depth)));
        forget(size);
        return Tree.fn(null, rules);
    }

    private Tree function2(int depth) {
        int size = scope.size();
        Tree.Pat x = Tree.variable(fresh(INT));
        Tree inner = function(depth);
        forget(size);
        return Tree.fn(null, List.of(new Tree.Rule(new Tree.Pat[] {x}, inner)));
    }

    private Tree exp(int type, int depth) {
        if (depth <= 0 || below(9) == 0) return leaf(type);
        int d = depth - 1;
        switch (below(16)) {
            case 0: return Tree.conditional(exp(BOOL, d), exp(type, d), exp(type, d));
            case 1: case 2: return choice(type, d);
            case 3: case 4: return let(type, d);
            case 5: return Tree.let(List.of(), List.of(exp(below(TYPES), d), exp(type, d)));
            case 6: return Tree.handle(exp(type, d), handlers(type, d));
            case 7: return below(3) > 0 ? own(type, d) : Tree.raise(exception(d));
            case 8: return Tree.typed(exp(type, d), WRITTEN[type]);
            case 9: return called(type, d);
            default: return own(type, d);
        }
    }

    /** A fn applied where it stands. */
    private Tree called(int type, int d) {
        int of = below(TYPES);
        Tree argument = exp(of, d);
        int size = scope.size();
        List<Tree.Rule> rules = List.of(new Tree.Rule(new Tree.Pat[] {pat(of, 2)}, exp(type, d)));
        forget(size);
        return Tree.apply(Tree.fn(null, rules), argument);
    }

    private Tree exception(int d) {
        switch (below(4)) {
            case 0: return Tree.constant("Bad", BAD);
            case 1: return known("Worse", exp(INT, d));
            case 2: return known("Worst", exp(PAIR, d));
            default: return plain(new String[] {"Div", "Match", "Chr"}[below(3)], false);
        }
    }

    private List<Tree.Rule> handlers(int type, int d) {
        List<Tree.Rule> rules = new ArrayList<>();
        for (int k = below(3); k >= 0; k--) {
            int size = scope.size();
            Tree.Pat pat;
            switch (below(6)) {
                case 0: pat = Tree.constant(BAD); break;
                case 1: pat = Tree.con("Worse", pat(INT, 1)); break;
                case 2: pat = Tree.con("Worst", pat(PAIR, 2)); break;
                case 3: pat = Tree.constant(new Model.Plain("Div", false)); break;
                case 4: pat = Tree.any(); break;
                default: pat = Tree.constant(new Model.Plain("Subscript", false)); break;
            }
            rules.add(new Tree.Rule(new Tree.Pat[] {pat}, exp(type, d)));
            forget(size);
        }
        return rules;
    }

    private Tree.Pat pat(int type, int depth) {
        if (below(5) == 0) return Tree.any();
        if (depth <= 0 || below(3) == 0) return Tree.variable(fresh(type));
        if (below(5) == 0) {
            String name = fresh(type);
            return Tree.as(name, pat(type, depth - 1));
        }
        switch (type) {
            case INT: return Tree.constant((Object) below(3));
            case BOOL: return Tree.constant(below(2) == 0 ? Model.TRUE : Model.FALSE);
            case UNIT: return Tree.constant(Model.UNIT);
            case LIST:
                switch (below(4)) {
                    case 0: return Tree.constant(Model.NIL);
                    case 1: return Tree.list(pat(INT, depth - 1), pat(INT, depth - 1));
                    default: return Tree.cons(pat(INT, depth - 1), pat(LIST, depth - 1));
                }
            case PAIR: return Tree.tuple(pat(INT, depth - 1), pat(STRING, 0));
            case TREE:
                if (below(3) == 0) return Tree.constant(LEAF);
                return Tree.con("Node", below(3) == 0 ? Tree.any() : Tree.tuple(pat(TREE, depth - 1), pat(INT, depth - 1), pat(TREE, depth - 1)));
            default: return Tree.variable(fresh(type));
        }
    }

    private Tree choice(int type, int d) {
        int of = below(TYPES);
        Tree subject = exp(of, d);
        List<Tree.Rule> rules = new ArrayList<>();
        for (int k = below(3); k >= 0; k--) {
            int size = scope.size();
            rules.add(new Tree.Rule(new Tree.Pat[] {k == 0 && below(8) > 0 ? Tree.any() : pat(of, 3)}, exp(type, d)));
            forget(size);
        }
        return Tree.choice(subject, rules);
    }

    private Tree let(int type, int d) {
        int size = scope.size();
        List<Tree.Dec> decs = new ArrayList<>();
        for (int k = below(2); k >= 0; k--) decs.add(dec(d));
        List<Tree> exps = new ArrayList<>();
        if (below(3) == 0) exps.add(exp(below(TYPES), d));
        exps.add(exp(type, d));
        forget(size);
        return Tree.let(decs, exps);
    }

    private Tree.Dec dec(int d) {
        switch (below(5)) {
            case 0: case 1: {
                int type = below(TYPES);
                Tree exp = exp(type, d);
                return Tree.val(below(3) > 0 ? Tree.variable(fresh(type)) : pat(type, 2), exp);
            }
            case 2: {
                String name = "v" + names++;
                Tree.Rule[] rules = clauses(name, 1, d);
                scope.add(name);
                types.add(FUN);
                return Tree.rec(name, List.of(rules));
            }
            default: return funs(d);
        }
    }

    /** The first for 0, the other one for what counts down. */
    private Tree.Rule[] clauses(String name, int atpats, int d) {
        int size = scope.size();
        Tree.Pat[] zero = new Tree.Pat[atpats];
        Tree.Pat[] more = new Tree.Pat[atpats];
        zero[0] = Tree.constant((Object) 0);
        for (int k = 1; k < atpats; k++) zero[k] = pat(INT, 0);
        Tree base = exp(INT, d);
        forget(size);
        String counter = fresh(INT);
        more[0] = Tree.variable(counter);
        for (int k = 1; k < atpats; k++) more[k] = pat(INT, below(8) == 0 ? 1 : 0);
        selves.add(new Self(name, counter, atpats));
        Tree body = exp(INT, d);
        if (below(3) > 0) {
            Tree again = below(2) == 0 ? itself(d) : below(2) == 0 ? Tree.operator("+", number(1), itself(d)) : Tree.let(List.of(), List.of(exp(below(TYPES), 1), itself(d)));
            int most = below(5) == 0 ? 2000 : 40;
            body = Tree.conditional(Tree.operator(">", Tree.name(counter), number(most)), number(most), again);
        }
        selves.remove(selves.size() - 1);
        forget(size);
        return new Tree.Rule[] {new Tree.Rule(zero, base), new Tree.Rule(more, body)};
    }

    /** A call of the function that is being declared. */
    private Tree itself(int d) {
        Self self = selves.get(selves.size() - 1 - (below(4) == 0 ? below(selves.size()) : 0));
        Tree call = Tree.apply(Tree.name(self.name), Tree.operator("-", Tree.name(self.counter), number(1)));
        for (int k = 1; k < self.atpats; k++) call = Tree.apply(call, exp(INT, Math.min(1, d)));
        return call;
    }

    private Tree.Dec funs(int d) {
        List<Tree.Fun> funs = new ArrayList<>();
        int count = 1 + (below(3) == 0 ? 1 + below(2) : 0);
        String[] own = new String[count];
        int[] atpats = new int[count];
        for (int k = 0; k < count; k++) {
            own[k] = "v" + names++;
            atpats[k] = 1 + below(2);
            scope.add(own[k]);
            types.add(-1 - atpats[k]);
        }
        int size = scope.size();
        for (int k = 0; k < count; k++) {
            // Those behind it can be called from it; none ahead of it, so that not all go on for ever.
            for (int n = 0; n < count; n++) types.set(size - count + n, n > k ? (atpats[n] == 1 ? FUN : FUN2) : -1);
            funs.add(new Tree.Fun(own[k], List.of(clauses(own[k], atpats[k], d))));
        }
        for (int n = 0; n < count; n++) types.set(size - count + n, atpats[n] == 1 ? FUN : FUN2);
        return Tree.fun(funs);
    }

    private Tree own(int type, int d) {
        switch (type) {
            case INT: return ofInt(d);
            case BOOL:
                switch (below(4)) {
                    case 0: return known("not", exp(BOOL, d));
                    case 1: return Tree.both(exp(BOOL, d), exp(BOOL, d));
                    case 2: return Tree.either(exp(BOOL, d), exp(BOOL, d));
                    default: return Tree.operator(new String[] {"=", "<>", "<", ">", "<=", ">="}[below(6)], exp(INT, d), exp(INT, d));
                }
            case STRING:
                switch (below(3)) {
                    case 0: return known("str", exp(INT, d));
                    case 1: return known("chr", within(exp(INT, d), 256));
                    default: return Tree.operator("^", exp(STRING, d), exp(STRING, d));
                }
            case UNIT:
                switch (below(4)) {
                    case 0: return known("put", exp(INT, d));
                    case 1: return known("print", exp(STRING, d));
                    case 2: return Tree.operator(":=", exp(REF, d), exp(INT, d));
                    default: return loop(d);
                }
            case LIST:
                return below(3) == 0 ? Tree.list(exp(INT, d), exp(INT, d), exp(INT, d)) : Tree.operator("::", exp(INT, d), exp(LIST, d));
            case PAIR: return Tree.tuple(exp(INT, d), exp(STRING, d));
            case REF: return known("ref", exp(INT, d));
            case TREE: return known("Node", Tree.tuple(exp(TREE, d), exp(INT, d), exp(TREE, d)));
            case FUN: return below(2) == 0 ? function(d) : Tree.apply(exp(FUN2, d), exp(INT, d));
            default: return function2(d);
        }
    }

    private Tree ofInt(int d) {
        switch (below(12)) {
            case 0: return known("~", exp(INT, d));
            case 1: return known("!", exp(REF, d));
            case 2: return known("size", exp(STRING, d));
            case 3: return known("sub", Tree.tuple(Tree.operator("^", Tree.string("ab"), exp(STRING, d)), within(exp(INT, d), 3)));
            case 4: return known("given", within(exp(INT, d), 4));
            case 5: return known("many", exp(UNIT, d));
            case 6: return Tree.operator(below(2) == 0 ? "div" : "mod", exp(INT, d), below(3) > 0 ? number(1 + below(5)) : exp(INT, d));
            case 7: return Tree.apply(exp(FUN, d), exp(INT, d));
            case 8: return Tree.apply(Tree.apply(exp(FUN2, d), exp(INT, d)), exp(INT, d));
            case 9: return selves.isEmpty() ? Tree.apply(exp(FUN, d), number(below(4) == 0 ? 1500 : below(30))) : itself(d);
            default: return Tree.operator(new String[] {"+", "-", "*"}[below(3)], exp(INT, d), exp(INT, d));
        }
    }

    /** Mostly what is less than some number, and not below 0. */
    private Tree within(Tree exp, int most) {
        return below(6) == 0 ? exp : Tree.operator("mod", exp, number(most));
    }

    private Tree loop(int d) {
        int size = scope.size();
        Tree begin = known("ref", number(0));
        String r = "v" + names++;
        scope.add(r);
        types.add(-1);
        Tree fetch = known("!", Tree.name(r));
        Tree body = Tree.let(List.of(), List.of(exp(UNIT, d), Tree.operator(":=", Tree.name(r), Tree.operator("+", fetch, number(1)))));
        Tree loop = Tree.loop(Tree.operator("<", fetch, number(below(6))), body);
        forget(size);
        return Tree.let(List.of(Tree.val(Tree.variable(r), begin)), List.of(loop));
    }

    private Tree program(List<Tree.Dec> decs, int depth) {
        for (int k = 1 + below(4); k > 0; k--) decs.add(dec(depth));
        List<Tree> exps = new ArrayList<>();
        for (int k = 0; k < scope.size(); k++) {
            if (types.get(k) != FUN && types.get(k) != FUN2) continue;
            Tree call = Tree.apply(Tree.name(scope.get(k)), number(below(6) == 0 ? 500 + below(1500) : below(40)));
            if (types.get(k) == FUN2) call = Tree.apply(call, number(below(40)));
            if (below(3) > 0) call = Tree.handle(call, handlers(INT, 1));
            exps.add(below(2) == 0 ? call : known("put", call));
        }
        exps.add(exp(below(TYPES), depth));
        return Tree.let(List.of(), exps);
    }

    private static String text(List<Tree.Dec> decs, Tree exp) {
        StringBuilder s = new StringBuilder("datatype tree = Leaf | Node of tree * int * tree exception Bad exception Worse of int exception Worst of int * string ");
        for (Tree.Dec d : decs) s.append(d.text()).append(' ');
        return s + "in " + exp.text();
    }

    private static int[] ends = new int[5];
    private static int unread;
    private static int collected;

    private static void one(long seed) {
        List<Tree.Dec> decs = new ArrayList<>();
        ModelTest maker = new ModelTest(seed);
        Tree exp = maker.program(decs, 2 + maker.below(3));
        String text = text(decs, exp);
        int calls = 9 * 28;
        if (text.length() > 8000 || House.feeds(text) + calls > House.CALLS_MOST) {
            unread++;
            return;
        }
        House house = houseFor(text, calls + 20);
        house.take();
        for (int n : INPUT) house.give(n);
        if (!house.read(text)) {
            unread++;
            if (house.fault(0) != MANY) same("fault of\n" + text, faultOf(house), "none");
            return;
        }
        int[] heaps = {20 + maker.below(30), 40 + maker.below(60), HEAP_MOST};
        int[] steps = {1 + maker.below(40), 100 + maker.below(300), STEPS_MOST};
        for (int k = 0; k < 3; k++) {
            String[] due = Model.comesTo(decs, exp, steps[k], heaps[k], INPUT);
            ends[due[0].charAt(0) - '0']++;
            if (!due[0].split(" ")[2].equals("0")) collected++;
            for (int how : hows()) asByModel(text, house, how, steps[k], heaps[k], due);
        }
    }

    public static void main(String[] args) throws InterruptedException {
        int programs = args.length > 0 ? Integer.parseInt(args[0]) : 1500;
        long first = args.length > 1 ? Long.parseLong(args[1]) : 1;
        Thread thread = new Thread(null, () -> {
            for (int p = 0; p < programs; p++) one(first + p);
        }, "model", 1L << 30);
        thread.start();
        thread.join();
        System.out.println("ends " + java.util.Arrays.toString(ends) + ", unread " + unread + ", collected " + collected);
        finish("programs and their model");
    }
}
