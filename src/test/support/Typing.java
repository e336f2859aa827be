import java.util.ArrayList;
import java.util.Collection;
import java.util.HashMap;
import java.util.HashSet;
import java.util.IdentityHashMap;
import java.util.LinkedHashMap;
import java.util.List;
import java.util.Map;
import java.util.Set;

/**
 * Part C of the document once more: what stands for what, and its types. What becomes general is found as
 * the document says it: by going through the types of all that can be seen.
 */
final class Typing {
    private static final int NAME = 3, AGAIN = 4, TYPE = 5, ARITY = 6, MANY = 7;
    private static final int VARIABLES_MOST = 100, PARTS_MOST = 100;

    /** A type: a name (-> and * too) and its parts, or a variable; a variable may be made equal to another type. */
    static final class Type {
        final String name;
        final List<Type> parts;
        private Type equal;

        private Type(String name, Type... parts) {
            this.name = name;
            this.parts = List.of(parts);
        }

        Type now() {
            Type t = this;
            while (t.equal != null) t = t.equal;
            return t;
        }

        boolean isVariable() {
            return name == null;
        }
    }

    private record Scheme(Type type, Set<Type> general) {
    }

    /** Variables that can be seen, the one that came last first; hidden ones are counted, too. */
    private record Env(String name, Scheme scheme, Env next, int count) {
        static final Env NOTHING = new Env("", null, null, 0);

        Env and(String name, Scheme scheme) {
            return new Env(name, scheme, this, count + 1);
        }

        Env and(List<Bound> bound) {
            Env env = this;
            for (Bound b : bound) env = env.and(b.name, new Scheme(b.type, Set.of()));
            return env;
        }

        Scheme of(String name) {
            for (Env e = this; e.scheme != null; e = e.next) if (e.name.equals(name)) return e.scheme;
            return null;
        }
    }

    private record Bound(String name, Type type, int place) {
    }

    private record Con(boolean hasArgument, Scheme scheme) {
    }

    private static final Type INT = new Type("int"), BOOL = new Type("bool"), UNIT = new Type("unit"), STRING = new Type("string"), EXN = new Type("exn");

    private final Map<String, Integer> types = new HashMap<>(Map.of("int", 0, "bool", 0, "unit", 0, "string", 0, "exn", 0, "list", 1, "ref", 1));
    private final Map<String, Con> cons = new HashMap<>();
    private Map<String, Type> told = new HashMap<>();
    private String tells = "annotation";

    private Typing() {
        for (String name : List.of("true", "false")) cons.put(name, new Con(false, new Scheme(BOOL, Set.of())));
        for (String name : List.of("Match", "Bind", "Div", "Subscript", "Chr")) cons.put(name, new Con(false, new Scheme(EXN, Set.of())));
        Type any = variable();
        cons.put("nil", new Con(false, new Scheme(list(any), Set.of(any))));
    }

    /** The type of the program's EXP, written whole. */
    static String of(Node program) {
        Typing typing = new Typing();
        Env env = Env.NOTHING;
        for (Node dec : program.parts().subList(0, program.parts().size() - 1)) env = typing.dec(dec, env, true);
        typing.told = new HashMap<>();
        return written(typing.exp(program.last(), env));
    }

    private static Type variable() {
        return new Type(null);
    }

    private static Type list(Type element) {
        return new Type("list", element);
    }

    private static Type arrow(Type from, Type to) {
        return new Type("->", from, to);
    }

    private static Set<Type> variables(Type type) {
        Set<Type> found = java.util.Collections.newSetFromMap(new IdentityHashMap<>());
        gather(type, found, java.util.Collections.newSetFromMap(new IdentityHashMap<>()));
        return found;
    }

    private static void gather(Type type, Set<Type> found, Set<Type> seen) {
        Type t = type.now();
        if (!seen.add(t)) return;
        if (t.isVariable()) found.add(t);
        for (Type part : t.parts) gather(part, found, seen);
    }

    private void equal(Type a, Type b, int place) {
        if (!equal(a.now(), b.now())) throw new Fault(TYPE, place);
    }

    private static boolean equal(Type one, Type other) {
        Type a = one.now();
        Type b = other.now();
        if (a == b) return true;
        if (a.isVariable() || b.isVariable()) {
            Type bound = a.isVariable() ? a : b;
            Type to = bound == a ? b : a;
            if (variables(to).contains(bound)) return false;
            bound.equal = to;
            return true;
        }
        if (!a.name.equals(b.name) || a.parts.size() != b.parts.size()) return false;
        for (int k = 0; k < a.parts.size(); k++) if (!equal(a.parts.get(k), b.parts.get(k))) return false;
        return true;
    }

    private static Type instance(Scheme scheme) {
        return instance(scheme.type, scheme.general, new IdentityHashMap<>());
    }

    private static Type instance(Type type, Set<Type> general, Map<Type, Type> news) {
        Type t = type.now();
        if (t.isVariable()) return general.contains(t) ? news.computeIfAbsent(t, k -> variable()) : t;
        List<Type> parts = new ArrayList<>();
        for (Type part : t.parts) parts.add(instance(part, general, news));
        return new Type(t.name, parts.toArray(new Type[0]));
    }

    /** How many parts a type has as it is written; no further than just over so many. */
    private static int parts(Type type, int most) {
        Type t = type.now();
        int sum = 1;
        for (int k = 0; k < t.parts.size() && sum <= most; k++) sum += parts(t.parts.get(k), most - sum);
        return sum;
    }

    private Scheme general(Type type, Env around, boolean outermost, int place) {
        Set<Type> general = variables(type);
        Set<String> hidden = new HashSet<>(cons.keySet());
        for (Env e = around; e.scheme != null; e = e.next) {
            if (!hidden.add(e.name)) continue;
            for (Type t : variables(e.scheme.type)) if (!e.scheme.general.contains(t)) general.remove(t);
        }
        if (!outermost) for (Type t : told.values()) general.removeAll(variables(t));
        if (!general.isEmpty() && parts(type, PARTS_MOST) > PARTS_MOST) throw new Fault(MANY, place);
        return new Scheme(type, general);
    }

    private Env dec(Node dec, Env env, boolean outermost) {
        if (outermost) told = new HashMap<>();
        switch (dec.kind()) {
            case "val":
                return val(dec, env, outermost);
            case "rec":
                Bound own = declared(dec.says(), variable(), dec.place(), List.of(), env);
                equal(own.type, exp(dec.part(0), env.and(List.of(own))), dec.sign());
                return env.and(own.name, general(own.type, env, outermost, own.place));
            case "fun":
                return fun(dec, env, outermost);
            case "datatype":
                datatype(dec);
                return env;
            default:
                tells = "exception";
                con(dec, EXN, Set.of());
                tells = "annotation";
                return env;
        }
    }

    private Env val(Node dec, Env env, boolean outermost) {
        List<Bound> bound = new ArrayList<>();
        Type pat = pat(dec.part(0), bound, env);
        equal(pat, exp(dec.part(1), env), dec.sign());
        if (!valued(dec.part(1))) return env.and(bound);
        Env all = env;
        for (Bound b : bound) all = all.and(b.name, general(b.type, env, outermost, b.place));
        return all;
    }

    private boolean valued(Node exp) {
        return switch (exp.kind()) {
            case "NAME", "~", "!", "NUMBER", "STRING", "fn" -> true;
            case "(", "[" -> exp.parts().stream().allMatch(this::valued);
            case "typed" -> valued(exp.part(0));
            case "apply" -> isCon(exp.part(0)) && valued(exp.part(1));
            case "operator" -> exp.says().equals("::") && valued(exp.part(0)) && valued(exp.part(1));
            default -> false;
        };
    }

    private boolean isCon(Node exp) {
        if (exp.is("(") && exp.parts().size() == 1) return isCon(exp.part(0));
        return exp.is("NAME") && cons.containsKey(exp.says());
    }

    private Bound declared(String name, Type type, int place, List<Bound> ahead, Env env) {
        if (cons.containsKey(name)) throw new Fault(AGAIN, place);
        for (Bound b : ahead) if (b.name.equals(name)) throw new Fault(AGAIN, place);
        if (env.count + ahead.size() >= VARIABLES_MOST) throw new Fault(MANY, place);
        return new Bound(name, type, place);
    }

    private Env fun(Node dec, Env env, boolean outermost) {
        List<Bound> functions = new ArrayList<>();
        for (Node function : dec.parts()) {
            Type type = variable();
            for (int k = 2; k < function.part(0).parts().size(); k++) type = arrow(variable(), type);
            functions.add(declared(function.says(), type, function.place(), functions, env));
        }
        for (int f = 0; f < functions.size(); f++) {
            for (Node clause : dec.part(f).parts()) {
                boolean fits = clause.says().equals(functions.get(f).name) && clause.parts().size() == dec.part(f).part(0).parts().size();
                if (!fits) throw new Fault(AGAIN, clause.place());
                clause(clause, functions.get(f).type, env.and(functions));
            }
        }
        Env all = env;
        for (Bound b : functions) all = all.and(b.name, general(b.type, env, outermost, b.place));
        return all;
    }

    private void clause(Node clause, Type function, Env env) {
        List<Bound> bound = new ArrayList<>();
        Type rest = function.now();
        int atpats = clause.parts().size() - 2;
        for (int k = 0; k < atpats; k++) {
            equal(rest.parts.get(0), pat(clause.part(k), bound, env), clause.place());
            rest = rest.parts.get(1).now();
        }
        Node type = clause.part(atpats);
        if (!type.is("none")) equal(rest, type(type), clause.place());
        equal(rest, exp(clause.last(), env.and(bound)), clause.sign());
    }

    private void datatype(Node dec) {
        for (Node type : dec.parts()) {
            Set<String> names = new HashSet<>();
            for (Node part : type.parts()) if (part.is("'") && !names.add(part.says())) throw new Fault(AGAIN, part.place());
            if (types.containsKey(type.says())) throw new Fault(AGAIN, type.place());
            types.put(type.says(), names.size());
        }
        tells = "datatype";
        for (Node type : dec.parts()) {
            Map<String, Type> own = new LinkedHashMap<>();
            for (Node part : type.parts()) if (part.is("'")) own.put(part.says(), variable());
            told = own;
            Type result = new Type(type.says(), own.values().toArray(new Type[0]));
            for (Node part : type.parts()) if (part.is("con")) con(part, result, new HashSet<>(own.values()));
        }
        tells = "annotation";
    }

    private void con(Node con, Type result, Collection<Type> general) {
        if (cons.containsKey(con.says())) throw new Fault(AGAIN, con.place());
        boolean hasArgument = !con.parts().isEmpty();
        Type type = hasArgument ? arrow(type(con.part(0)), result) : result;
        Set<Type> own = variables(type);
        own.retainAll(general);
        if (!own.isEmpty() && parts(type, PARTS_MOST) > PARTS_MOST) throw new Fault(MANY, con.place());
        cons.put(con.says(), new Con(hasArgument, new Scheme(type, own)));
    }

    private Type type(Node type) {
        if (type.is("'")) {
            if (tells.equals("exception") || tells.equals("datatype") && !told.containsKey(type.says())) throw new Fault(NAME, type.place());
            return told.computeIfAbsent(type.says(), k -> variable());
        }
        List<Type> parts = new ArrayList<>();
        for (Node part : type.parts()) parts.add(type(part));
        if (type.is("NAME")) {
            if (!types.containsKey(type.says())) throw new Fault(NAME, type.place());
            if (types.get(type.says()) != parts.size()) throw new Fault(ARITY, type.place());
        }
        return new Type(type.is("NAME") ? type.says() : type.kind(), parts.toArray(new Type[0]));
    }

    private Type pat(Node pat, List<Bound> bound, Env env) {
        switch (pat.kind()) {
            case "_":
                return variable();
            case "NUMBER":
                return INT;
            case "NAME":
                Con plain = cons.get(pat.says());
                if (plain != null) {
                    if (plain.hasArgument) throw new Fault(ARITY, pat.place());
                    return instance(plain.scheme);
                }
                bound.add(declared(pat.says(), variable(), pat.place(), bound, env));
                return bound.get(bound.size() - 1).type;
            case "con":
                Con con = cons.get(pat.says());
                if (con == null) throw new Fault(NAME, pat.place());
                if (!con.hasArgument) throw new Fault(ARITY, pat.place());
                Type type = instance(con.scheme);
                equal(type.parts.get(0), pat(pat.part(0), bound, env), pat.place());
                return type.parts.get(1);
            case "as":
                Bound own = declared(pat.says(), variable(), pat.place(), bound, env);
                bound.add(own);
                equal(own.type, pat(pat.part(0), bound, env), pat.place());
                return own.type;
            case "typed":
                Type of = pat(pat.part(0), bound, env);
                equal(of, type(pat.part(1)), pat.sign());
                return of;
            case "::":
                Type first = pat(pat.part(0), bound, env);
                Type rest = pat(pat.part(1), bound, env);
                equal(list(first), rest, pat.sign());
                return rest;
            case "[":
                Type element = pat.parts().isEmpty() ? variable() : pat(pat.part(0), bound, env);
                for (int k = 1; k < pat.parts().size(); k++) equal(element, pat(pat.part(k), bound, env), pat.part(k).place());
                return list(element);
            default:
                List<Type> fields = new ArrayList<>();
                for (Node part : pat.parts()) fields.add(pat(part, bound, env));
                return tuple(fields);
        }
    }

    private static Type tuple(List<Type> fields) {
        return fields.isEmpty() ? UNIT : fields.size() == 1 ? fields.get(0) : new Type("*", fields.toArray(new Type[0]));
    }

    private Type exp(Node exp, Env env) {
        switch (exp.kind()) {
            case "NAME":
            case "~":
            case "!":
            case "ref":
                return name(exp, env);
            case "NUMBER":
                return INT;
            case "STRING":
                return STRING;
            case "apply":
                Type function = exp(exp.part(0), env);
                Type argument = exp(exp.part(1), env);
                Type given = variable();
                equal(function, arrow(argument, given), exp.sign());
                return given;
            case "operator":
                return operator(exp, exp(exp.part(0), env), exp(exp.part(1), env));
            case "typed":
                Type of = exp(exp.part(0), env);
                equal(of, type(exp.part(1)), exp.sign());
                return of;
            case "[":
                Type element = exp.parts().isEmpty() ? variable() : exp(exp.part(0), env);
                for (int k = 1; k < exp.parts().size(); k++) equal(element, exp(exp.part(k), env), exp.part(k).place());
                return list(element);
            case "sequence":
                Type last = null;
                for (Node part : exp.parts()) last = exp(part, env);
                return last;
            case "(":
                List<Type> fields = new ArrayList<>();
                for (Node part : exp.parts()) fields.add(exp(part, env));
                return tuple(fields);
            default:
                return branches(exp, env);
        }
    }

    private Type branches(Node exp, Env env) {
        switch (exp.kind()) {
            case "fn":
                return match(exp, 0, null, null, env);
            case "case":
                return match(exp, 1, exp(exp.part(0), env), null, env).parts.get(1);
            case "handle":
                return match(exp, 1, EXN, exp(exp.part(0), env), env).parts.get(1);
            case "raise":
                equal(exp(exp.part(0), env), EXN, exp.place());
                return variable();
            case "while":
                equal(exp(exp.part(0), env), BOOL, exp.place());
                exp(exp.part(1), env);
                return UNIT;
            case "if":
                equal(exp(exp.part(0), env), BOOL, exp.place());
                Type one = exp(exp.part(1), env);
                equal(one, exp(exp.part(2), env), exp.sign());
                return one;
            default:
                Env inner = env;
                for (Node dec : exp.part(0).parts()) inner = dec(dec, inner, false);
                Type last = null;
                for (int k = 1; k < exp.parts().size(); k++) last = exp(exp.part(k), inner);
                return last;
        }
    }

    private Type match(Node match, int first, Type matched, Type given, Env env) {
        Type from = matched;
        Type to = given;
        for (Node rule : match.parts().subList(first, match.parts().size())) {
            List<Bound> bound = new ArrayList<>();
            Type pat = pat(rule.part(0), bound, env);
            if (from == null) from = pat;
            else equal(from, pat, rule.part(0).place());
            Type exp = exp(rule.part(1), env.and(bound));
            if (to == null) to = exp;
            else equal(to, exp, rule.part(1).place());
        }
        return arrow(from, to);
    }

    private Type name(Node exp, Env env) {
        Con con = cons.get(exp.says());
        if (con != null) return instance(con.scheme);
        Scheme scheme = env.of(exp.says());
        if (scheme != null) return instance(scheme);
        Type any = variable();
        return switch (exp.says()) {
            case "~", "given" -> arrow(INT, INT);
            case "!" -> arrow(new Type("ref", any), any);
            case "ref" -> arrow(any, new Type("ref", any));
            case "not" -> arrow(BOOL, BOOL);
            case "print" -> arrow(STRING, UNIT);
            case "put" -> arrow(INT, UNIT);
            case "str", "chr" -> arrow(INT, STRING);
            case "size" -> arrow(STRING, INT);
            case "sub" -> arrow(new Type("*", STRING, INT), INT);
            case "many" -> arrow(UNIT, INT);
            default -> throw new Fault(NAME, exp.place());
        };
    }

    private Type operator(Node exp, Type left, Type right) {
        Type any = variable();
        Type side = switch (exp.says()) {
            case "^" -> STRING;
            case "andalso", "orelse" -> BOOL;
            case ":=", "::" -> any;
            default -> INT;
        };
        equal(left, exp.says().equals(":=") ? new Type("ref", any) : side, exp.sign());
        equal(right, exp.says().equals("::") ? list(any) : side, exp.sign());
        return switch (exp.says()) {
            case "::" -> list(any);
            case ":=" -> UNIT;
            case "+", "-", "*", "div", "mod", "^", "andalso", "orelse" -> side;
            default -> BOOL;
        };
    }

    static String written(Type type) {
        StringBuilder out = new StringBuilder();
        write(type, 0, out, new ArrayList<>());
        return out.toString();
    }

    /** A type that stands at a place where all (0), all but functions (1), or neither they nor products (2) may be without ( ). */
    private static void write(Type type, int place, StringBuilder out, List<Type> met) {
        Type t = type.now();
        if (t.isVariable()) {
            int k = 0;
            while (k < met.size() && met.get(k) != t) k++;
            if (k == met.size()) met.add(t);
            out.append('\'').append((char) ('a' + k % 26)).append(k < 26 ? "" : "" + k / 26);
            return;
        }
        boolean arrow = t.name.equals("->");
        boolean product = t.name.equals("*");
        boolean listed = !arrow && !product && t.parts.size() > 1;
        boolean round = arrow && place > 0 || product && place > 1 || listed;
        if (round) out.append('(');
        for (int k = 0; k < t.parts.size(); k++) {
            if (k > 0) out.append(listed ? ", " : " " + t.name + " ");
            write(t.parts.get(k), arrow ? 1 - k : listed ? 0 : 2, out, met);
        }
        if (round) out.append(')');
        if (!arrow && !product) out.append(t.parts.isEmpty() ? "" : " ").append(t.name);
    }
}
