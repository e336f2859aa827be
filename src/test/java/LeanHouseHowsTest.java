import java.util.ArrayList;
import java.util.List;

/**
 * Programs made by rule from a seed, all well typed: each is run by how 0, 1 and 2 with several heaps
 * and steps, and all that can be seen of the three runs must be the same.
 */
public final class LeanHouseHowsTest extends Houses {
    private static final int INT = 0, BOOL = 1, STRING = 2, UNIT = 3, LIST = 4, PAIR = 5, FUN = 6, REF = 7, TREE = 8, TYPES = 9;
    private static final String[] WRITTEN = {"int", "bool", "string", "unit", "int list", "int * string", "int -> int", "int ref", "tree"};

    private long seed;
    private int names;
    private final List<String> scope = new ArrayList<>();
    private final List<Integer> scopeTypes = new ArrayList<>();

    private LeanHouseHowsTest(long seed) {
        this.seed = seed;
    }

    private int below(int n) {
        seed = seed * 6364136223846793005L + 1442695040888963407L;
        return (int) ((seed >>> 33) % n);
    }

    private String fresh() {
        return "v" + names++;
    }

    private void bind(String name, int type) {
        scope.add(name);
        scopeTypes.add(type);
    }

    private void drop(int size) {
        while (scope.size() > size) {
            scope.remove(scope.size() - 1);
            scopeTypes.remove(scopeTypes.size() - 1);
        }
    }

    private String variable(int type) {
        List<String> fit = new ArrayList<>();
        for (int k = 0; k < scope.size(); k++) {
            if (scopeTypes.get(k) == type) fit.add(scope.get(k));
        }
        return fit.isEmpty() || below(4) == 0 ? null : fit.get(below(fit.size()));
    }

    private String number() {
        int[] some = {0, 1, 2, 3, 7, 10, 255, 300, 1073741823, 123456789};
        int n = below(3) == 0 ? some[below(some.length)] : below(9);
        return below(4) == 0 ? " ~" + n : "" + n;
    }

    private String leaf(int type) {
        String v = variable(type);
        if (v != null) return v;
        switch (type) {
            case INT: return number();
            case BOOL: return below(2) == 0 ? "true" : "false";
            case STRING: return new String[] {"\"\"", "\"a\"", "\"abcd\"", "\"\\000\\200\\n\"", "\"hello, world\""}[below(5)];
            case UNIT: return "()";
            case LIST: return new String[] {"[]", "[1, 2]", "nil"}[below(3)];
            case PAIR: return "(" + number() + ", \"p\")";
            case FUN: return below(3) == 0 ? "~" : below(2) == 0 ? "given" : "(fn x => x)";
            case REF: return "(ref " + number() + ")";
            default: return below(2) == 0 ? "Leaf" : "(Node (Leaf, " + number() + ", Leaf))";
        }
    }

    private String exp(int type, int depth) {
        if (depth <= 0) return leaf(type);
        switch (below(16)) {
            case 0: return "(if " + exp(BOOL, depth - 1) + " then " + exp(type, depth - 1) + " else " + exp(type, depth - 1) + ")";
            case 1: return "(" + exp(below(TYPES), depth - 1) + "; " + exp(type, depth - 1) + ")";
            case 2: return let(type, depth);
            case 3: return caseOf(type, depth);
            case 4: return handled(type, depth);
            case 5: return "(" + exp(type, depth - 1) + " : " + WRITTEN[type] + ")";
            case 6: return function(type, depth);
            case 7: return below(3) == 0 ? "(raise " + raised(depth) + ")" : leaf(type);
            default: return special(type, depth);
        }
    }

    private String raised(int depth) {
        switch (below(4)) {
            case 0: return "Bad";
            case 1: return "Worse " + exp(INT, depth - 1);
            case 2: return "Worst (" + exp(PAIR, depth - 1) + ")";
            default: return "Div";
        }
    }

    private String handled(int type, int depth) {
        String v = fresh();
        String head = "(" + exp(type, depth - 1) + " handle " + (below(2) == 0 ? "Div => " + exp(type, depth - 1) + " | " : "") + "Worse " + v + " => ";
        int size = scope.size();
        bind(v, INT);
        head += exp(type, depth - 1);
        drop(size);
        return head + (below(2) == 0 ? " | _ => " + exp(type, depth - 1) : "") + ")";
    }

    private String let(int type, int depth) {
        int size = scope.size();
        StringBuilder s = new StringBuilder("let ");
        for (int k = below(3); k >= 0; k--) s.append(dec(depth - 1));
        s.append("in ").append(exp(type, depth - 1));
        if (below(3) == 0) s.append("; ").append(exp(type, depth - 1));
        drop(size);
        return s.append(" end").toString();
    }

    private String dec(int depth) {
        String v = fresh();
        int type = below(TYPES);
        String text;
        int size = scope.size();
        switch (below(5)) {
            case 0: {
                String w = fresh();
                text = "val (" + v + ", " + w + ") = " + exp(PAIR, depth) + " ";
                bind(v, INT);
                bind(w, STRING);
                return text;
            }
            case 1: {
                String x = fresh();
                bind(v, FUN);
                text = "val rec " + v + " = fn 0 => " + exp(INT, depth);
                bind(x, INT);
                text += " | " + x + " => if " + x + " < 0 then 0 else " + exp(INT, depth) + " ";
                drop(size);
                bind(v, FUN);
                return text;
            }
            case 2: {
                String x = fresh(), y = fresh(), w = fresh();
                bind(v, FUN);
                bind(x, INT);
                text = "fun " + v + " 0 = 0 | " + v + " " + x + " = " + exp(INT, depth);
                drop(size);
                bind(v, FUN);
                bind(x, INT);
                bind(y, type);
                text += " and " + w + " " + x + " " + y + " = " + exp(INT, depth) + " ";
                drop(size);
                bind(v, FUN);
                return text;
            }
            default:
                text = "val " + v + " = " + exp(type, depth) + " ";
                bind(v, type);
                return text;
        }
    }

    private String caseOf(int type, int depth) {
        int size = scope.size();
        String x = fresh(), y = fresh(), z = fresh();
        String s;
        switch (below(4)) {
            case 0:
                s = "(case " + exp(LIST, depth - 1) + " of [] => " + exp(type, depth - 1) + " | " + x + " :: " + y + " => ";
                bind(x, INT);
                bind(y, LIST);
                s += exp(type, depth - 1);
                break;
            case 1:
                s = "(case " + exp(TREE, depth - 1) + " of " + z + " as Node (_, " + x + ", " + y + ") => ";
                bind(z, TREE);
                bind(x, INT);
                bind(y, TREE);
                s += exp(type, depth - 1);
                break;
            case 2:
                s = "(case " + exp(LIST, depth - 1) + " of [" + x + ", 2] => ";
                bind(x, INT);
                s += exp(type, depth - 1);
                drop(size);
                s += " | _ :: _ :: " + y + " => ";
                bind(y, LIST);
                s += exp(type, depth - 1);
                break;
            default:
                s = "(case (" + exp(PAIR, depth - 1) + ", " + exp(BOOL, depth - 1) + ") of ((" + x + ", " + y + "), true) => ";
                bind(x, INT);
                bind(y, STRING);
                s += exp(type, depth - 1);
        }
        drop(size);
        return s + (below(3) == 0 ? ")" : " | _ => " + exp(type, depth - 1) + ")");
    }

    private String function(int type, int depth) {
        int from = below(TYPES);
        String x = fresh();
        int size = scope.size();
        bind(x, from);
        String body = exp(type, depth - 1);
        drop(size);
        return "((fn " + x + " => " + body + ") " + exp(from, depth - 1) + ")";
    }

    private String special(int type, int depth) {
        int d = depth - 1;
        switch (type) {
            case INT:
                switch (below(9)) {
                    case 0: return "(" + exp(INT, d) + " div " + exp(INT, d) + ")";
                    case 1: return "(" + exp(INT, d) + " mod " + exp(INT, d) + ")";
                    case 2: return "(size " + atom(STRING, d) + ")";
                    case 3: return "(sub (" + exp(STRING, d) + ", " + exp(INT, d) + "))";
                    case 4: return "(! " + atom(REF, d) + ")";
                    case 5: return "(" + atom(FUN, d) + " " + atom(INT, d) + ")";
                    case 6: return "(many ())";
                    default: return "(" + exp(INT, d) + new String[] {" + ", " - ", " * "}[below(3)] + exp(INT, d) + ")";
                }
            case BOOL:
                switch (below(4)) {
                    case 0: return "(not " + atom(BOOL, d) + ")";
                    case 1: return "(" + exp(BOOL, d) + " andalso " + exp(BOOL, d) + ")";
                    case 2: return "(" + exp(BOOL, d) + " orelse " + exp(BOOL, d) + ")";
                    default: return "(" + exp(INT, d) + new String[] {" = ", " <> ", " < ", " > ", " <= ", " >= "}[below(6)] + exp(INT, d) + ")";
                }
            case STRING:
                switch (below(3)) {
                    case 0: return "(str " + atom(INT, d) + ")";
                    case 1: return "(chr " + atom(INT, d) + ")";
                    default: return "(" + exp(STRING, d) + " ^ " + exp(STRING, d) + ")";
                }
            case UNIT:
                switch (below(4)) {
                    case 0: return "(put " + atom(INT, d) + ")";
                    case 1: return "(print " + atom(STRING, d) + ")";
                    case 2: return "(" + exp(REF, d) + " := " + exp(INT, d) + ")";
                    default: {
                        String r = fresh();
                        return "let val " + r + " = ref 0 in while !" + r + " < " + below(6) + " do (" + exp(UNIT, d) + "; " + r + " := !" + r + " + 1) end";
                    }
                }
            case LIST: return "(" + exp(INT, d) + " :: " + exp(LIST, d) + ")";
            case PAIR: return "(" + exp(INT, d) + ", " + exp(STRING, d) + ")";
            case REF: return "(ref " + atom(INT, d) + ")";
            case FUN: {
                String x = fresh();
                int size = scope.size();
                bind(x, INT);
                String body = exp(INT, d);
                drop(size);
                return "(fn " + x + " => " + body + ")";
            }
            default: return "(Node (" + exp(TREE, d) + ", " + exp(INT, d) + ", " + exp(TREE, d) + "))";
        }
    }

    private String atom(int type, int depth) {
        return "(" + exp(type, depth) + ")";
    }

    private String program() {
        StringBuilder s = new StringBuilder("datatype tree = Leaf | Node of tree * int * tree;\nexception Bad exception Worse of int exception Worst of int * string\n");
        for (int k = below(4); k > 0; k--) s.append(dec(3));
        return s.append("in ").append(exp(below(TYPES), 4)).toString();
    }

    /** All that can be seen of a run; of what is put out and told as many bytes as the calls allow. */
    private static String seen(House house, int how, int steps, int heap, int bytes) {
        StringBuilder s = new StringBuilder();
        int end = house.run(how, steps, heap);
        s.append("end ").append(end);
        for (int k = 0; k < 5; k++) s.append(' ').append(house.seen(k));
        int kept = Math.min(2000, house.seen(4));
        int picks = Math.min(kept, bytes / 2);
        for (int k = 0; k < picks; k++) s.append(' ').append(house.byteAt(pick(k, picks, kept)));
        if (end < 2) {
            int size = house.tell(1);
            s.append(" = ").append(size).append(' ');
            picks = Math.min(size, bytes - picks);
            for (int k = 0; k < picks; k++) s.append((char) house.resultAt(pick(k, picks, size)));
        }
        return s.toString();
    }

    private static void give(House house) {
        house.take();
        for (int k = 0; k < 4; k++) house.give(k * k - 3);
    }

    /** Whether it is a program: all are, but those with more variables or tokens than are allowed. */
    private static boolean read(House house, String text) {
        if (house.read(text)) return true;
        if (house.fault(0) != MANY) same("fault of " + text, faultOf(house), "none");
        return false;
    }

    public static void main(String[] args) {
        int programs = args.length > 0 ? Integer.parseInt(args[0]) : 1500;
        long first = args.length > 1 ? Long.parseLong(args[1]) : 1;
        int[] ends = new int[5];
        int unread = 0;
        int collected = 0;
        for (int p = 0; p < programs; p++) {
            String text = new LeanHouseHowsTest(first + p).program();
            int bytes = 60;
            if (House.feeds(text) + 3 * (bytes + 8) + 8 > House.CALLS_MOST) {
                unread++;
                continue;
            }
            int[] heaps = {16 + p % 60, 100, 4096};
            int[] steps = {1 + p % 50, 400, 20000};
            for (int k = 0; k < 3; k++) {
                House house = houseFor(text, 3 * (bytes + 8) + 8);
                give(house);
                if (!read(house, text)) {
                    unread++;
                    break;
                }
                String one = null;
                for (int how : hows()) {
                    String other = seen(house, how, steps[k], heaps[k], bytes);
                    if (one != null) same("how " + how + ", steps " + steps[k] + ", heap " + heaps[k] + " of\n" + text, other, one);
                    one = other;
                }
                ends[one.charAt(4) - '0']++;
                if (house.seen(1) > 0) collected++;
            }
        }
        System.out.println("ends " + java.util.Arrays.toString(ends) + ", unread " + unread + ", collected " + collected);
        same("each end but that of the pile was met", ends[0] > 0 && ends[1] > 0 && ends[2] > 0 && ends[3] > 0, true);
        finish("all three ways to run");
    }
}
