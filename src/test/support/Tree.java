import java.util.ArrayList;
import java.util.List;
import java.util.Set;

/** Programs as trees: each knows its text, which variables stand in it, and how the model works it out. */
abstract class Tree {
    abstract String text();

    /** Puts its value onto the pile; or is true, and a call in tail position is to come instead. */
    abstract boolean eval(Model m, Model.Env env, int frame, boolean tail);

    /** Adds the variables that stand in it but are not bound in it; every variable has a name of its own. */
    abstract void free(Set<String> names);

    final Object value(Model m, Model.Env env) {
        eval(m, env, -1, false);
        return m.pop();
    }

    static String joined(List<? extends Tree> trees, String between) {
        StringBuilder s = new StringBuilder();
        for (Tree t : trees) s.append(s.length() > 0 ? between : "").append(t.text());
        return s.toString();
    }

    /** A PAT: whether it matches, and the variables that it gives, from the left. */
    static abstract class Pat {
        abstract String text();

        abstract boolean matches(Object value, List<String> names, List<Object> values);
    }

    static Pat any() {
        return new Pat() {
            String text() {
                return "_";
            }

            boolean matches(Object value, List<String> names, List<Object> values) {
                return true;
            }
        };
    }

    static Pat variable(String name) {
        return new Pat() {
            String text() {
                return name;
            }

            boolean matches(Object value, List<String> names, List<Object> values) {
                names.add(name);
                values.add(value);
                return true;
            }
        };
    }

    static Pat as(String name, Pat inner) {
        return new Pat() {
            String text() {
                return "(" + name + " as " + inner.text() + ")";
            }

            boolean matches(Object value, List<String> names, List<Object> values) {
                names.add(name);
                values.add(value);
                return inner.matches(value, names, values);
            }
        };
    }

    /** A number, or what takes no room. */
    static Pat constant(Object due) {
        return new Pat() {
            String text() {
                return due instanceof Integer n ? Model.number(n) : ((Model.Plain) due).name();
            }

            boolean matches(Object value, List<String> names, List<Object> values) {
                return due.equals(value);
            }
        };
    }

    static Pat con(String name, Pat inner) {
        return new Pat() {
            String text() {
                return "(" + name + " " + inner.text() + ")";
            }

            boolean matches(Object value, List<String> names, List<Object> values) {
                return value instanceof Model.Thing t && t.name.equals(name) && inner.matches(t.parts[0], names, values);
            }
        };
    }

    static Pat tuple(Pat... parts) {
        return new Pat() {
            String text() {
                StringBuilder s = new StringBuilder();
                for (Pat p : parts) s.append(s.length() > 0 ? ", " : "(").append(p.text());
                return s + ")";
            }

            boolean matches(Object value, List<String> names, List<Object> values) {
                for (int k = 0; k < parts.length; k++) {
                    if (!parts[k].matches(((Model.Thing) value).parts[k], names, values)) return false;
                }
                return true;
            }
        };
    }

    static Pat cons(Pat first, Pat rest) {
        Pat pair = tuple(first, rest);
        return new Pat() {
            String text() {
                return "(" + first.text() + " :: " + rest.text() + ")";
            }

            boolean matches(Object value, List<String> names, List<Object> values) {
                return value instanceof Model.Thing t && pair.matches(t.parts[0], names, values);
            }
        };
    }

    static Pat list(Pat... parts) {
        Pat all = constant(Model.NIL);
        for (int k = parts.length - 1; k >= 0; k--) all = cons(parts[k], all);
        Pat chain = all;
        return new Pat() {
            String text() {
                StringBuilder s = new StringBuilder("[");
                for (Pat p : parts) s.append(s.length() > 1 ? ", " : "").append(p.text());
                return s + "]";
            }

            boolean matches(Object value, List<String> names, List<Object> values) {
                return chain.matches(value, names, values);
            }
        };
    }

    /** Tries PATs, each with its value, all together: the environment with what they give, on the pile too; null if one does not match. */
    static Model.Env bound(Model m, Model.Env env, Pat[] pats, Object[] given) {
        List<String> names = new ArrayList<>();
        List<Object> values = new ArrayList<>();
        for (int k = 0; k < pats.length; k++) if (!pats[k].matches(given[k], names, values)) return null;
        Model.Env e = env;
        for (int k = 0; k < names.size(); k++) {
            m.push(values.get(k));
            e = new Model.Env(names.get(k), values.get(k), e);
        }
        return e;
    }

    private static void patNames(Pat[] pats, Set<String> names) {
        for (Pat p : pats) {
            for (String word : p.text().split("[^A-Za-z0-9_]+")) names.remove(word);
        }
    }

    /** PAT .. => EXP, or a clause's ATPATs = EXP. */
    record Rule(Pat[] pats, Tree exp) {
        String text(String between) {
            StringBuilder s = new StringBuilder();
            for (Pat p : pats) s.append(p.text()).append(' ');
            return s + between + " " + exp.text();
        }

        void free(Set<String> names) {
            exp.free(names);
            patNames(pats, names);
        }
    }

    static String rules(List<Rule> rules) {
        StringBuilder s = new StringBuilder();
        for (Rule r : rules) s.append(s.length() > 0 ? " | " : "").append(r.text("=>"));
        return s.toString();
    }

    /** A MATCH with a value that is on the pile: 0 none, 1 matched and its value is there, 2 a call in tail position is to come. */
    static int match(Model m, Model.Env env, List<Rule> rules, int place, int frame, boolean tail) {
        Object[] value = {m.pile.get(place)};
        for (Rule r : rules) {
            Model.Env e = bound(m, env, r.pats(), value);
            if (e == null) continue;
            if (r.exp().eval(m, e, frame, tail)) return 2;
            return 1;
        }
        return 0;
    }

    /** A leaf, whose value takes no room. */
    static Tree constant(String text, Object value) {
        return new Tree() {
            String text() {
                return text;
            }

            boolean eval(Model m, Model.Env env, int frame, boolean tail) {
                m.push(value);
                return false;
            }

            void free(Set<String> names) {
            }
        };
    }

    static Tree string(String bytes) {
        return new Tree() {
            String text() {
                return "\"" + bytes + "\"";
            }

            boolean eval(Model m, Model.Env env, int frame, boolean tail) {
                m.string(bytes, 0);
                return false;
            }

            void free(Set<String> names) {
            }
        };
    }

    static Tree name(String name) {
        return new Tree() {
            String text() {
                return name;
            }

            boolean eval(Model m, Model.Env env, int frame, boolean tail) {
                m.push(Model.Env.of(env, name));
                return false;
            }

            void free(Set<String> names) {
                names.add(name);
            }
        };
    }

    /** One thing made of several that are worked out from the left. */
    abstract static class Parts extends Tree {
        final List<Tree> parts;

        Parts(Tree... parts) {
            this.parts = List.of(parts);
        }

        void free(Set<String> names) {
            for (Tree t : parts) t.free(names);
        }

        boolean eval(Model m, Model.Env env, int frame, boolean tail) {
            for (Tree t : parts) t.eval(m, env, frame, false);
            return done(m, frame, tail);
        }

        abstract boolean done(Model m, int frame, boolean tail);
    }

    static Tree apply(Tree function, Tree argument) {
        return new Parts(function, argument) {
            String text() {
                return "(" + function.text() + " " + argument.text() + ")";
            }

            boolean done(Model m, int frame, boolean tail) {
                return m.apply(frame, tail);
            }
        };
    }

    static Tree tuple(Tree... fields) {
        return new Parts(fields) {
            String text() {
                return "(" + joined(parts, ", ") + ")";
            }

            boolean done(Model m, int frame, boolean tail) {
                m.gather('t', "", parts.size() + 1, parts.size());
                return false;
            }
        };
    }

    static Tree list(Tree... elements) {
        return new Parts(elements) {
            String text() {
                return "[" + joined(parts, ", ") + "]";
            }

            boolean done(Model m, int frame, boolean tail) {
                m.push(Model.NIL);
                for (int k = 0; k < parts.size(); k++) m.cons();
                return false;
            }
        };
    }

    static Tree operator(String sign, Tree left, Tree right) {
        return new Parts(left, right) {
            String text() {
                return "(" + left.text() + " " + sign + " " + right.text() + ")";
            }

            boolean done(Model m, int frame, boolean tail) {
                if (sign.equals("::")) m.cons();
                else if (sign.equals("^")) m.string(((Model.Thing) m.pile.get(m.pile.size() - 2)).name + ((Model.Thing) m.pile.get(m.pile.size() - 1)).name, 2);
                else operate(m, sign);
                return false;
            }
        };
    }

    private static void operate(Model m, String sign) {
        Object right = m.pop();
        Object left = m.pop();
        if (sign.equals(":=")) {
            ((Model.Thing) left).parts[0] = right;
            m.pile.add(Model.UNIT);
            return;
        }
        int a = (Integer) left;
        int b = (Integer) right;
        if ((sign.equals("div") || sign.equals("mod")) && b == 0) throw new Model.Raised(new Model.Plain("Div", false));
        m.pile.add(switch (sign) {
            case "+" -> Model.wrapped(a + b);
            case "-" -> Model.wrapped(a - b);
            case "*" -> Model.wrapped(a * b);
            case "div" -> Model.wrapped(Math.floorDiv(a, b));
            case "mod" -> Model.wrapped(Math.floorMod(a, b));
            case "=" -> a == b ? Model.TRUE : Model.FALSE;
            case "<>" -> a != b ? Model.TRUE : Model.FALSE;
            case "<" -> a < b ? Model.TRUE : Model.FALSE;
            case ">" -> a > b ? Model.TRUE : Model.FALSE;
            case "<=" -> a <= b ? Model.TRUE : Model.FALSE;
            default -> a >= b ? Model.TRUE : Model.FALSE;
        });
    }

    static Tree branch(Tree condition, Tree then, Tree otherwise, String text) {
        return new Tree() {
            String text() {
                return text;
            }

            boolean eval(Model m, Model.Env env, int frame, boolean tail) {
                return (condition.value(m, env) == Model.TRUE ? then : otherwise).eval(m, env, frame, tail);
            }

            void free(Set<String> names) {
                condition.free(names);
                then.free(names);
                otherwise.free(names);
            }
        };
    }

    static Tree conditional(Tree condition, Tree then, Tree otherwise) {
        return branch(condition, then, otherwise, "(if " + condition.text() + " then " + then.text() + " else " + otherwise.text() + ")");
    }

    static Tree both(Tree left, Tree right) {
        return branch(left, right, constant("false", Model.FALSE), "(" + left.text() + " andalso " + right.text() + ")");
    }

    static Tree either(Tree left, Tree right) {
        return branch(left, constant("true", Model.TRUE), right, "(" + left.text() + " orelse " + right.text() + ")");
    }

    static Tree typed(Tree exp, String type) {
        return new Tree() {
            String text() {
                return "(" + exp.text() + " : " + type + ")";
            }

            boolean eval(Model m, Model.Env env, int frame, boolean tail) {
                return exp.eval(m, env, frame, tail);
            }

            void free(Set<String> names) {
                exp.free(names);
            }
        };
    }

    static Tree loop(Tree condition, Tree body) {
        return new Tree() {
            String text() {
                return "(while " + condition.text() + " do " + body.text() + ")";
            }

            boolean eval(Model m, Model.Env env, int frame, boolean tail) {
                m.step();
                while (condition.value(m, env) == Model.TRUE) {
                    body.value(m, env);
                    m.step();
                }
                m.push(Model.UNIT);
                return false;
            }

            void free(Set<String> names) {
                condition.free(names);
                body.free(names);
            }
        };
    }

    static Tree choice(Tree subject, List<Rule> rules) {
        return new Tree() {
            String text() {
                return "(case " + subject.text() + " of " + rules(rules) + ")";
            }

            boolean eval(Model m, Model.Env env, int frame, boolean tail) {
                subject.eval(m, env, frame, false);
                int place = m.pile.size() - 1;
                int how = match(m, env, rules, place, frame, tail);
                if (how == 0) throw new Model.Raised(new Model.Plain("Match", false));
                if (how == 1) m.slide(place);
                return how == 2;
            }

            void free(Set<String> names) {
                subject.free(names);
                for (Rule r : rules) r.free(names);
            }
        };
    }

    static Tree raise(Tree exception) {
        return new Tree() {
            String text() {
                return "(raise " + exception.text() + ")";
            }

            boolean eval(Model m, Model.Env env, int frame, boolean tail) {
                exception.eval(m, env, frame, false);
                throw new Model.Raised(m.pile.get(m.pile.size() - 1));
            }

            void free(Set<String> names) {
                exception.free(names);
            }
        };
    }

    static Tree handle(Tree exp, List<Rule> rules) {
        return new Tree() {
            String text() {
                return "(" + exp.text() + " handle " + rules(rules) + ")";
            }

            boolean eval(Model m, Model.Env env, int frame, boolean tail) {
                int place = m.pile.size();
                Object raised;
                try {
                    m.mark(3);
                    exp.eval(m, env, frame, false);
                    m.slide(place);
                    return false;
                } catch (Model.Raised r) {
                    raised = r.value;
                }
                m.cut(place);
                m.push(raised);
                int how = match(m, env, rules, place, frame, tail);
                if (how == 0) throw new Model.Raised(raised);
                if (how == 1) m.slide(place);
                return how == 2;
            }

            void free(Set<String> names) {
                exp.free(names);
                for (Rule r : rules) r.free(names);
            }
        };
    }

    /** Declarations, and what is worked out behind them; in ( ; ) if there are none. */
    static Tree let(List<Dec> decs, List<Tree> exps) {
        return new Tree() {
            String text() {
                if (decs.isEmpty()) return "(" + joined(exps, "; ") + ")";
                StringBuilder s = new StringBuilder("let ");
                for (Dec d : decs) s.append(d.text()).append(' ');
                return s + "in " + joined(exps, "; ") + " end";
            }

            boolean eval(Model m, Model.Env env, int frame, boolean tail) {
                int place = m.pile.size();
                Model.Env e = env;
                for (Dec d : decs) e = d.declare(m, e);
                for (int k = 0; k + 1 < exps.size(); k++) exps.get(k).value(m, e);
                if (exps.get(exps.size() - 1).eval(m, e, frame, tail)) return true;
                m.slide(place);
                return false;
            }

            void free(Set<String> names) {
                for (Tree t : exps) t.free(names);
                for (int k = decs.size() - 1; k >= 0; k--) decs.get(k).free(names);
            }
        };
    }

    /** A declaration: takes the names that it binds out of those that stand behind it, and adds its own. */
    abstract static class Dec {
        abstract String text();

        abstract Model.Env declare(Model m, Model.Env env);

        abstract void free(Set<String> names);
    }

    static Dec val(Pat pat, Tree exp) {
        return new Dec() {
            String text() {
                return "val " + pat.text() + " = " + exp.text();
            }

            Model.Env declare(Model m, Model.Env env) {
                exp.eval(m, env, -1, false);
                Model.Env e = bound(m, env, new Pat[] {pat}, new Object[] {m.pile.get(m.pile.size() - 1)});
                if (e == null) throw new Model.Raised(new Model.Plain("Bind", false));
                return e;
            }

            void free(Set<String> names) {
                patNames(new Pat[] {pat}, names);
                exp.free(names);
            }
        };
    }

    /** fn MATCH: a function with what stands in it; one by val rec has a name of its own. */
    static Tree fn(String own, List<Rule> rules) {
        return new Tree() {
            private List<String> held;

            String text() {
                return own == null ? "(fn " + rules(rules) + ")" : "fn " + rules(rules);
            }

            boolean eval(Model m, Model.Env env, int frame, boolean tail) {
                if (held == null) held = Functions.held(this, own);
                m.need(2 + held.size());
                m.push(new Model.Thing('f', "", 2 + held.size(), (machine, self, at) -> {
                    Model.Env e = own == null ? Model.Env.NOTHING : new Model.Env(own, self, Model.Env.NOTHING);
                    for (int k = 0; k < held.size(); k++) e = new Model.Env(held.get(k), self.parts[k], e);
                    int how = match(machine, e, rules, at + 1, at, true);
                    if (how == 0) throw new Model.Raised(new Model.Plain("Match", false));
                    return how == 2;
                }, Functions.values(env, held)));
                return false;
            }

            void free(Set<String> names) {
                for (Rule r : rules) r.free(names);
            }
        };
    }

    static Dec rec(String name, List<Rule> rules) {
        Tree fn = fn(name, rules);
        return new Dec() {
            String text() {
                return "val rec " + name + " = " + fn.text();
            }

            Model.Env declare(Model m, Model.Env env) {
                fn.eval(m, env, -1, false);
                return new Model.Env(name, m.pile.get(m.pile.size() - 1), env);
            }

            void free(Set<String> names) {
                fn.free(names);
                names.remove(name);
            }
        };
    }

    /** One function of a fun: clauses, all with as many ATPATs. */
    record Fun(String name, List<Rule> clauses) {
        String text() {
            StringBuilder s = new StringBuilder();
            for (Rule r : clauses) s.append(s.length() > 0 ? " | " : "").append(name).append(' ').append(r.text("="));
            return s.toString();
        }
    }

    static Dec fun(List<Fun> funs) {
        return new Functions(funs);
    }
}
