import java.util.ArrayList;
import java.util.LinkedHashSet;
import java.util.List;
import java.util.Set;

/** fun: its functions are made at once; those of more ATPATs are functions in one another. */
final class Functions extends Tree.Dec {
    private final List<Tree.Fun> funs;
    private final List<List<String>> held = new ArrayList<>();
    private final List<Boolean> itself = new ArrayList<>();

    Functions(List<Tree.Fun> funs) {
        this.funs = funs;
        for (Tree.Fun f : funs) {
            Set<String> names = standing(f);
            itself.add(names.remove(f.name()));
            held.add(new ArrayList<>(names));
        }
    }

    /** The variables that stand in a fn, bound outside of it. */
    static List<String> held(Tree fn, String own) {
        Set<String> names = new LinkedHashSet<>();
        fn.free(names);
        names.remove(own);
        return new ArrayList<>(names);
    }

    static Object[] values(Model.Env env, List<String> names) {
        Object[] values = new Object[names.size()];
        for (int k = 0; k < values.length; k++) values[k] = Model.Env.of(env, names.get(k));
        return values;
    }

    private static Set<String> standing(Tree.Fun fun) {
        Set<String> names = new LinkedHashSet<>();
        for (Tree.Rule r : fun.clauses()) r.free(names);
        return names;
    }

    String text() {
        StringBuilder s = new StringBuilder();
        for (Tree.Fun f : funs) s.append(s.length() > 0 ? " and " : "fun ").append(f.text());
        return s.toString();
    }

    void free(Set<String> names) {
        for (Tree.Fun f : funs) names.addAll(standing(f));
        for (Tree.Fun f : funs) names.remove(f.name());
    }

    Model.Env declare(Model m, Model.Env env) {
        int words = 0;
        for (List<String> names : held) words += 2 + names.size();
        m.need(words);
        Model.Env e = env;
        List<Model.Thing> made = new ArrayList<>();
        for (int k = 0; k < funs.size(); k++) {
            int which = k;
            int size = held.get(k).size();
            Model.Thing one = new Model.Thing('f', "", 2 + size, (machine, own, frame) -> called(machine, which, own, own, 0, frame), new Object[size]);
            made.add(one);
            e = new Model.Env(funs.get(k).name(), one, e);
            m.push(one);
        }
        for (int k = 0; k < made.size(); k++) {
            Object[] values = values(e, held.get(k));
            System.arraycopy(values, 0, made.get(k).parts, 0, values.length);
        }
        return e;
    }

    /** The function has so many of its arguments already; own is the one that is called, first the one that was declared. */
    private boolean called(Model m, int which, Model.Thing first, Model.Thing own, int has, int frame) {
        int wanted = funs.get(which).clauses().get(0).pats().length;
        if (has + 1 == wanted) return matched(m, which, first, own, frame);
        // Each but the last gives a function that has what the first one has, that itself, and the arguments so far.
        int size = held.get(which).size();
        Object[] parts = new Object[size + (itself.get(which) ? 1 : 0) + has + 1];
        m.need(2 + parts.length);
        System.arraycopy(first.parts, 0, parts, 0, size);
        if (itself.get(which)) parts[size] = first;
        for (int k = 0; k < has; k++) parts[parts.length - 1 - has + k] = own.parts[own.parts.length - has + k];
        parts[parts.length - 1] = m.pile.get(frame + 1);
        m.push(new Model.Thing('f', "", 2 + parts.length, (machine, next, at) -> called(machine, which, first, next, has + 1, at), parts));
        return false;
    }

    private boolean matched(Model m, int which, Model.Thing first, Model.Thing own, int frame) {
        Tree.Fun fun = funs.get(which);
        Model.Env env = new Model.Env(fun.name(), first, Model.Env.NOTHING);
        for (int k = 0; k < held.get(which).size(); k++) env = new Model.Env(held.get(which).get(k), own.parts[k], env);
        int wanted = fun.clauses().get(0).pats().length;
        Object[] given = new Object[wanted];
        for (int k = 0; k + 1 < wanted; k++) given[k] = own.parts[own.parts.length - wanted + 1 + k];
        given[wanted - 1] = m.pile.get(frame + 1);
        for (Tree.Rule r : fun.clauses()) {
            Model.Env e = Tree.bound(m, env, r.pats(), given);
            if (e != null) return r.exp().eval(m, e, frame, true);
        }
        throw new Model.Raised(new Model.Plain("Match", false));
    }
}
