import java.util.ArrayList;
import java.util.HashMap;
import java.util.HashSet;
import java.util.List;
import java.util.Map;
import java.util.Set;

/** A program that has been read becomes what the model can run; names maps each variable to a name of its own. */
final class Building {
    private static final Set<String> KNOWN = Set.of("~", "!", "ref", "not", "print", "put", "str", "chr", "size", "sub", "given", "many");

    /** Constructors and exceptions, and whether they have an argument. */
    private final Map<String, Boolean> cons = new HashMap<>();
    private final Map<String, Object> plain = new HashMap<>();
    private int variables;

    final List<Tree.Dec> decs = new ArrayList<>();
    final Tree exp;

    Building(Node program) {
        plain.put("true", Model.TRUE);
        plain.put("false", Model.FALSE);
        plain.put("nil", Model.NIL);
        for (String name : List.of("true", "false", "nil", "Match", "Bind", "Div", "Subscript", "Chr")) cons.put(name, false);
        Map<String, String> names = new HashMap<>();
        for (Node dec : program.parts().subList(0, program.parts().size() - 1)) outermost(dec, names);
        exp = exp(program.last(), names);
    }

    /** The model knows a constructor by its name alone: it must not be that of a function known ahead. */
    boolean canRun() {
        Set<String> both = new HashSet<>(cons.keySet());
        both.retainAll(KNOWN);
        return both.isEmpty();
    }

    private void outermost(Node dec, Map<String, String> names) {
        switch (dec.kind()) {
            case "datatype" -> {
                for (Node type : dec.parts()) {
                    for (Node con : type.parts()) if (con.is("con")) cons.put(con.says(), !con.parts().isEmpty());
                }
            }
            case "exception" -> cons.put(dec.says(), !dec.parts().isEmpty());
            default -> decs.add(dec(dec, names));
        }
    }

    private String variable(String name, Map<String, String> names) {
        String own = "v" + variables++;
        names.put(name, own);
        return own;
    }

    private Object constant(String name) {
        return plain.computeIfAbsent(name, n -> new Model.Plain(n, cons.getOrDefault(n, true)));
    }

    /** The names behind it take in what it declares. */
    private Tree.Dec dec(Node dec, Map<String, String> names) {
        switch (dec.kind()) {
            case "val":
                Tree exp = exp(dec.part(1), names);
                return Tree.val(pat(dec.part(0), names), exp);
            case "rec":
                String own = variable(dec.says(), names);
                return Tree.rec(own, rules(dec.part(0), 0, names));
            default:
                List<String> owns = new ArrayList<>();
                for (Node function : dec.parts()) owns.add(variable(function.says(), names));
                List<Tree.Fun> funs = new ArrayList<>();
                for (int k = 0; k < owns.size(); k++) funs.add(new Tree.Fun(owns.get(k), clauses(dec.part(k), names)));
                return Tree.fun(funs);
        }
    }

    private List<Tree.Rule> clauses(Node function, Map<String, String> names) {
        List<Tree.Rule> clauses = new ArrayList<>();
        for (Node clause : function.parts()) {
            Map<String, String> inner = new HashMap<>(names);
            Tree.Pat[] pats = new Tree.Pat[clause.parts().size() - 2];
            for (int k = 0; k < pats.length; k++) pats[k] = pat(clause.part(k), inner);
            clauses.add(new Tree.Rule(pats, exp(clause.last(), inner)));
        }
        return clauses;
    }

    private List<Tree.Rule> rules(Node match, int first, Map<String, String> names) {
        List<Tree.Rule> rules = new ArrayList<>();
        for (Node rule : match.parts().subList(first, match.parts().size())) {
            Map<String, String> inner = new HashMap<>(names);
            Tree.Pat pat = pat(rule.part(0), inner);
            rules.add(new Tree.Rule(new Tree.Pat[] {pat}, exp(rule.part(1), inner)));
        }
        return rules;
    }

    private Tree.Pat pat(Node pat, Map<String, String> names) {
        switch (pat.kind()) {
            case "_":
                return Tree.any();
            case "NUMBER":
                return Tree.constant(number(pat.says()));
            case "NAME":
                return cons.containsKey(pat.says()) ? Tree.constant(constant(pat.says())) : Tree.variable(variable(pat.says(), names));
            case "con":
                return Tree.con(pat.says(), pat(pat.part(0), names));
            case "as":
                String own = variable(pat.says(), names);
                return Tree.as(own, pat(pat.part(0), names));
            case "typed":
                return pat(pat.part(0), names);
            default:
                Tree.Pat[] parts = new Tree.Pat[pat.parts().size()];
                for (int k = 0; k < parts.length; k++) parts[k] = pat(pat.part(k), names);
                if (pat.is("::")) return Tree.cons(parts[0], parts[1]);
                if (pat.is("[")) return Tree.list(parts);
                return parts.length == 0 ? Tree.constant(Model.UNIT) : parts.length == 1 ? parts[0] : Tree.tuple(parts);
        }
    }

    private Tree exp(Node exp, Map<String, String> names) {
        switch (exp.kind()) {
            case "NAME":
                if (!cons.containsKey(exp.says()) && names.containsKey(exp.says())) return Tree.name(names.get(exp.says()));
                return Tree.constant(exp.says(), constant(exp.says()));
            case "~", "!", "ref":
                return Tree.constant(exp.says(), constant(exp.says()));
            case "NUMBER":
                return Tree.constant(exp.says(), number(exp.says()));
            case "STRING":
                return Tree.string(meant(exp.says()));
            case "typed":
                return Tree.typed(exp(exp.part(0), names), "");
            case "fn":
                return Tree.fn(null, rules(exp, 0, names));
            case "case":
                return Tree.choice(exp(exp.part(0), names), rules(exp, 1, names));
            case "handle":
                return Tree.handle(exp(exp.part(0), names), rules(exp, 1, names));
            case "let":
                Map<String, String> inner = new HashMap<>(names);
                List<Tree.Dec> decs = new ArrayList<>();
                for (Node dec : exp.part(0).parts()) decs.add(dec(dec, inner));
                List<Tree> exps = new ArrayList<>();
                for (Node part : exp.parts().subList(1, exp.parts().size())) exps.add(exp(part, inner));
                return Tree.let(decs, exps);
            default:
                Tree[] parts = new Tree[exp.parts().size()];
                for (int k = 0; k < parts.length; k++) parts[k] = exp(exp.part(k), names);
                return together(exp, parts);
        }
    }

    private static Tree together(Node exp, Tree[] parts) {
        switch (exp.kind()) {
            case "apply":
                return Tree.apply(parts[0], parts[1]);
            case "operator":
                return exp.says().equals("andalso") ? Tree.both(parts[0], parts[1]) : exp.says().equals("orelse") ? Tree.either(parts[0], parts[1])
                    : Tree.operator(exp.says(), parts[0], parts[1]);
            case "if":
                return Tree.conditional(parts[0], parts[1], parts[2]);
            case "while":
                return Tree.loop(parts[0], parts[1]);
            case "raise":
                return Tree.raise(parts[0]);
            case "[":
                return Tree.list(parts);
            case "sequence":
                return Tree.let(List.of(), List.of(parts));
            default:
                return parts.length == 0 ? Tree.constant("()", Model.UNIT) : parts.length == 1 ? parts[0] : Tree.tuple(parts);
        }
    }

    private static int number(String figures) {
        return Integer.parseInt(figures.replace('~', '-'));
    }

    private static String meant(String string) {
        StringBuilder s = new StringBuilder();
        for (int k = 1; k < string.length() - 1; k++) {
            char c = string.charAt(k);
            if (c != '\\') {
                s.append(c);
                continue;
            }
            char sign = string.charAt(++k);
            if (!Character.isDigit(sign)) {
                s.append(sign == 'n' ? '\n' : sign == 't' ? '\t' : sign);
                continue;
            }
            s.append((char) Integer.parseInt(string.substring(k, k + 3)));
            k += 2;
        }
        return s.toString();
    }
}
