import java.util.ArrayList;
import java.util.List;

/** Part B of the document once more: a rule of its grammar is a method; what is open comes as a number. */
final class Grammar {
    private static final int SYNTAX = 2, MANY = 7;
    private static final int OPEN_MOST = 40, CONS_MOST = 60, TYPES_MOST = 30, FIELDS_MOST = 30, ATPATS_MOST = 12;

    private static final List<String> WIDE = List.of("fn", "case", "if", "while", "raise");
    private static final List<String> ATEXP = List.of(Tokens.NAME, Tokens.NUMBER, Tokens.STRING, "~", "!", "ref", "(", "[", "let");
    private static final List<String> ATPAT = List.of("_", Tokens.NAME, Tokens.NUMBER, "(", "[");
    private static final List<String> TYPE = List.of(Tokens.VARIABLE, Tokens.NAME, "ref", "(");
    private static final List<List<String>> FROM_LEFT = List.of(List.of("=", "<>", "<", ">", "<=", ">="), List.of("+", "-", "^"), List.of("*", "div", "mod"));

    private final List<Tokens.Token> tokens;
    private int next;
    private int cons;
    private int types;

    private Grammar(String text) {
        tokens = Tokens.of(text);
    }

    /** A program: its DECS, and its EXP as the last part. */
    static Node program(String text) {
        Grammar g = new Grammar(text);
        List<Node> parts = new ArrayList<>();
        g.decs(parts, true, 0);
        g.take("in");
        parts.add(g.exp(0));
        g.take(Tokens.END);
        return new Node("program", "", 0, 0, parts);
    }

    private Tokens.Token here() {
        Tokens.Token token = tokens.get(next);
        if (token.kind().equals(Tokens.BAD)) throw new Fault(1, token.place());
        if (token.kind().equals(Tokens.MANY)) throw new Fault(MANY, token.place());
        return token;
    }

    private boolean on(String kind) {
        return here().kind().equals(kind);
    }

    private boolean on(List<String> kinds) {
        return kinds.contains(here().kind());
    }

    private Tokens.Token take() {
        return tokens.get(next++);
    }

    private Tokens.Token take(String kind) {
        if (!on(kind)) throw new Fault(SYNTAX, here().place());
        return take();
    }

    private boolean takes(String kind) {
        if (!on(kind)) return false;
        take();
        return true;
    }

    /** The token here opens one more than so many. */
    private int opened(int open) {
        if (open == OPEN_MOST) throw new Fault(MANY, here().place());
        return open + 1;
    }

    private void atMost(int most, int have) {
        if (have == most) throw new Fault(MANY, here().place());
    }

    private void decs(List<Node> decs, boolean outermost, int open) {
        while (on("val") || on("fun") || outermost && (on("datatype") || on("exception"))) {
            switch (take().kind()) {
                case "val" -> decs.add(on("rec") ? rec(open) : val(open));
                case "fun" -> decs.add(fun(open));
                case "datatype" -> decs.add(datatype());
                default -> decs.add(con("exception"));
            }
            takes(";");
        }
    }

    private Node val(int open) {
        Node pat = pat(open);
        int sign = take("=").place();
        return Node.of("val", "", pat.place(), sign, pat, exp(open));
    }

    private Node rec(int open) {
        take();
        Tokens.Token name = take(Tokens.NAME);
        int sign = take("=").place();
        if (!on("fn")) throw new Fault(SYNTAX, here().place());
        return Node.of("rec", name.text(), name.place(), sign, exp(open));
    }

    private Node fun(int open) {
        List<Node> functions = new ArrayList<>();
        do {
            List<Node> clauses = new ArrayList<>();
            do clauses.add(clause(open)); while (takes("|"));
            functions.add(new Node("function", clauses.get(0).says(), clauses.get(0).place(), 0, clauses));
        } while (takes("and"));
        return new Node("fun", "", 0, 0, functions);
    }

    /** ATPATs, its TYPE or "none", its EXP. */
    private Node clause(int open) {
        Tokens.Token name = take(Tokens.NAME);
        List<Node> parts = new ArrayList<>();
        do {
            parts.add(atpat(open));
            if (on(ATPAT)) atMost(ATPATS_MOST, parts.size());
        } while (on(ATPAT));
        parts.add(takes(":") ? type(open) : Node.of("none", "", 0, 0));
        int sign = take("=").place();
        parts.add(exp(open));
        return new Node("clause", name.text(), name.place(), sign, parts);
    }

    private Node datatype() {
        List<Node> all = new ArrayList<>();
        do {
            List<Node> parts = new ArrayList<>();
            if (on(Tokens.VARIABLE)) {
                parts.add(variable());
            } else if (takes("(")) {
                do parts.add(variable()); while (takes(","));
                take(")");
            }
            if (on(Tokens.NAME)) atMost(TYPES_MOST, types++);
            Tokens.Token name = take(Tokens.NAME);
            take("=");
            do parts.add(con("con")); while (takes("|"));
            all.add(new Node("type", name.text(), name.place(), 0, parts));
        } while (takes("and"));
        return new Node("datatype", "", 0, 0, all);
    }

    private Node variable() {
        Tokens.Token token = take(Tokens.VARIABLE);
        return Node.of("'", token.text(), token.place(), 0);
    }

    private Node con(String kind) {
        if (on(Tokens.NAME)) atMost(CONS_MOST, cons++);
        Tokens.Token name = take(Tokens.NAME);
        return takes("of") ? Node.of(kind, name.text(), name.place(), 0, type(0)) : Node.of(kind, name.text(), name.place(), 0);
    }

    private Node type(int open) {
        List<Node> parts = new ArrayList<>();
        parts.add(part(open));
        while (takes("*")) {
            if (on(TYPE)) atMost(FIELDS_MOST, parts.size());
            parts.add(part(open));
        }
        Node product = parts.size() == 1 ? parts.get(0) : new Node("*", "", 0, 0, parts);
        if (!on("->")) return product;
        int inner = opened(open);
        take();
        return Node.of("->", "", 0, 0, product, type(inner));
    }

    private Node part(int open) {
        List<Node> ahead = new ArrayList<>();
        if (on(Tokens.VARIABLE)) {
            ahead.add(variable());
        } else if (on("(")) {
            int inner = opened(open);
            take();
            do ahead.add(type(inner)); while (takes(","));
            take(")");
        } else if (!on(Tokens.NAME) && !on("ref")) {
            throw new Fault(SYNTAX, here().place());
        }
        while (ahead.size() != 1 || on(Tokens.NAME) || on("ref")) {
            if (!on("ref") && !on(Tokens.NAME)) throw new Fault(SYNTAX, here().place());
            Tokens.Token name = take();
            ahead = List.of(new Node("NAME", name.text(), name.place(), 0, ahead));
        }
        return ahead.get(0);
    }

    private Node pat(int open) {
        Node pat = consPat(open);
        if (!on(":")) return pat;
        int sign = take().place();
        return Node.of("typed", "", pat.place(), sign, pat, type(open));
    }

    private Node consPat(int open) {
        Node left = pat2(open);
        if (!on("::")) return left;
        int inner = opened(open);
        int sign = take().place();
        return Node.of("::", "", left.place(), sign, left, consPat(inner));
    }

    private Node pat2(int open) {
        if (!on(Tokens.NAME)) return atpat(open);
        Node name = atpat(open);
        if (on("as")) {
            int inner = opened(open);
            take();
            return Node.of("as", name.says(), name.place(), 0, pat(inner));
        }
        return on(ATPAT) ? Node.of("con", name.says(), name.place(), 0, atpat(open)) : name;
    }

    private Node atpat(int open) {
        if (!on(ATPAT)) throw new Fault(SYNTAX, here().place());
        boolean opens = on("(") || on("[");
        int inner = opens ? opened(open) : open;
        Tokens.Token token = take();
        if (!opens) return Node.of(token.kind(), token.text(), token.place(), 0);
        String close = token.kind().equals("(") ? ")" : "]";
        List<Node> parts = new ArrayList<>();
        if (!on(close)) {
            do {
                if (close.equals(")") && on(ATPAT)) atMost(FIELDS_MOST, parts.size());
                parts.add(pat(inner));
            } while (takes(","));
        }
        take(close);
        return new Node(token.kind(), "", token.place(), 0, parts);
    }

    /** Rules, each a PAT and an EXP, behind what comes ahead of them. */
    private Node match(String kind, int place, Node ahead, int open) {
        List<Node> parts = new ArrayList<>();
        if (ahead != null) parts.add(ahead);
        do {
            Node pat = pat(open);
            take("=>");
            parts.add(Node.of("rule", "", pat.place(), 0, pat, exp(open)));
        } while (takes("|"));
        return new Node(kind, "", place, 0, parts);
    }

    private Node exp(int open) {
        if (on(WIDE)) return wide(open);
        Node low = orelse(open);
        if (!on("handle")) return low;
        int inner = opened(open);
        take();
        return match("handle", low.place(), low, inner);
    }

    private Node wide(int open) {
        int inner = opened(open);
        Tokens.Token token = take();
        int place = token.place();
        if (token.kind().equals("fn")) return match("fn", place, null, inner);
        Node first = exp(inner);
        switch (token.kind()) {
            case "raise":
                return Node.of("raise", "", place, place, first);
            case "case":
                take("of");
                return match("case", place, first, inner);
            case "while":
                take("do");
                return Node.of("while", "", place, place, first, exp(inner));
            default:
                take("then");
                Node second = exp(inner);
                int sign = take("else").place();
                return Node.of("if", "", place, sign, first, second, exp(inner));
        }
    }

    private Node orelse(int open) {
        Node left = andalso(open);
        if (!on("orelse")) return left;
        int inner = opened(open);
        int sign = take().place();
        return Node.of("operator", "orelse", left.place(), sign, left, on(WIDE) ? wide(inner) : orelse(inner));
    }

    private Node andalso(int open) {
        Node left = typed(open);
        if (!on("andalso")) return left;
        int inner = opened(open);
        int sign = take().place();
        return Node.of("operator", "andalso", left.place(), sign, left, on(WIDE) ? wide(inner) : andalso(inner));
    }

    private Node typed(int open) {
        Node exp = assign(open);
        while (on(":")) {
            int sign = take().place();
            exp = Node.of("typed", "", exp.place(), sign, exp, type(open));
        }
        return exp;
    }

    private Node assign(int open) {
        Node left = fromLeft(0, open);
        while (on(":=")) {
            int sign = take().place();
            left = Node.of("operator", ":=", left.place(), sign, left, on(WIDE) ? wide(open) : fromLeft(0, open));
        }
        return left;
    }

    /** Comparisons, then (behind ::) sums, then products, then applications. */
    private Node fromLeft(int level, int open) {
        if (level == FROM_LEFT.size()) return application(open);
        Node left = level == 0 ? cons(open) : fromLeft(level + 1, open);
        while (on(FROM_LEFT.get(level))) {
            Tokens.Token sign = take();
            left = Node.of("operator", sign.kind(), left.place(), sign.place(), left, level == 0 ? cons(open) : fromLeft(level + 1, open));
        }
        return left;
    }

    private Node cons(int open) {
        Node left = fromLeft(1, open);
        if (!on("::")) return left;
        int inner = opened(open);
        int sign = take().place();
        return Node.of("operator", "::", left.place(), sign, left, cons(inner));
    }

    private Node application(int open) {
        Node left = atexp(open);
        while (on(ATEXP)) left = Node.of("apply", "", left.place(), here().place(), left, atexp(open));
        return left;
    }

    private Node atexp(int open) {
        if (!on(ATEXP)) throw new Fault(SYNTAX, here().place());
        boolean opens = on("(") || on("[") || on("let");
        int inner = opens ? opened(open) : open;
        Tokens.Token token = take();
        switch (token.kind()) {
            case "(":
                return round(token.place(), inner);
            case "[":
                List<Node> elements = new ArrayList<>();
                if (!on("]")) {
                    do elements.add(exp(inner)); while (takes(","));
                }
                take("]");
                return new Node("[", "", token.place(), 0, elements);
            case "let":
                return let(token.place(), inner);
            default:
                return Node.of(token.kind(), token.text(), token.place(), 0);
        }
    }

    private Node round(int place, int open) {
        List<Node> parts = new ArrayList<>();
        if (takes(")")) return new Node("(", "", place, 0, parts);
        parts.add(exp(open));
        String kind = on(";") ? "sequence" : "(";
        String between = on(";") ? ";" : ",";
        while (takes(between)) {
            boolean begins = on(ATEXP) || on(WIDE);
            if (between.equals(",") && begins) atMost(FIELDS_MOST, parts.size());
            parts.add(exp(open));
        }
        take(")");
        return new Node(kind, "", place, 0, parts);
    }

    private Node let(int place, int open) {
        List<Node> decs = new ArrayList<>();
        decs(decs, false, open);
        take("in");
        List<Node> parts = new ArrayList<>();
        parts.add(new Node("decs", "", 0, 0, decs));
        do parts.add(exp(open)); while (takes(";"));
        take("end");
        return new Node("let", "", place, 0, parts);
    }
}
