import java.util.ArrayList;
import java.util.Collections;
import java.util.IdentityHashMap;
import java.util.List;
import java.util.Set;

/**
 * Parts D and E of the document once more, as plainly as they can be written: programs are trees that
 * work themselves out, the PILE is a list, and what can be reached is looked for by going through it.
 */
final class Model {
    static final int STEPS_END = 2;
    static final int HEAP_END = 3;
    static final int PILE_END = 4;

    /** The run has ended by 2, 3 or 4. */
    static final class End extends RuntimeException {
        final int how;

        End(int how) {
            super(null, null, false, false);
            this.how = how;
        }
    }

    /** An exception of the program is on its way. */
    static final class Raised extends RuntimeException {
        final Object value;

        Raised(Object value) {
            super(null, null, false, false);
            this.value = value;
        }
    }

    /** What takes no room but is no number: constructors without argument, ( ), functions known ahead, constructors as functions. */
    record Plain(String name, boolean isFunction) {
    }

    /** What takes room. A function has its code; the parts are fields, the argument, or what stands in it. */
    static final class Thing {
        final char kind;
        final String name;
        final int words;
        final Object[] parts;
        final Code code;

        Thing(char kind, String name, int words, Code code, Object... parts) {
            this.kind = kind;
            this.name = name;
            this.words = words;
            this.code = code;
            this.parts = parts;
        }
    }

    /** Variables that can be seen: the one that came last, and those ahead of it. */
    record Env(String name, Object value, Env next) {
        static final Env NOTHING = new Env("", null, null);

        static Object of(Env env, String name) {
            for (Env e = env; e != null; e = e.next) if (e.name.equals(name)) return e.value;
            throw new AssertionError("no variable " + name);
        }
    }

    /** The body of a function: leaves its value on the pile, or is true where a call in tail position is to come. */
    interface Code {
        boolean run(Model m, Thing own, int frame);
    }

    static final Plain UNIT = new Plain("()", false);
    static final Plain NIL = new Plain("[]", false);
    static final Plain TRUE = new Plain("true", false);
    static final Plain FALSE = new Plain("false", false);

    /** Stands for the words of a call or a handle that are no values. */
    private static final Object MARK = new Plain("mark", false);

    final List<Object> pile = new ArrayList<>();
    final StringBuilder output = new StringBuilder();
    int steps;
    int collections;
    int pileMost;
    int used;
    private final int stepsMost;
    private final int heap;
    private final int[] input;

    Model(int stepsMost, int heap, int[] input) {
        this.stepsMost = stepsMost;
        this.heap = heap;
        this.input = input;
    }

    /** What is due of a program: end, steps, collections, words, pile, bytes put out; then the output; then the value. */
    static String[] comesTo(List<Tree.Dec> decs, Tree exp, int steps, int heap, int[] input) {
        Model m = new Model(steps, heap, input);
        int end;
        String value = "";
        try {
            Env env = Env.NOTHING;
            for (Tree.Dec d : decs) env = d.declare(m, env);
            exp.eval(m, env, -1, false);
            end = 0;
            value = written(m.pile.get(m.pile.size() - 1));
        } catch (Raised r) {
            end = 1;
            value = written(r.value);
        } catch (End e) {
            end = e.how;
        }
        String seen = end + " " + m.steps + " " + m.collections + " " + m.used + " " + m.pileMost + " " + m.output.length();
        return new String[] {seen, m.output.length() > 2000 ? m.output.substring(0, 2000) : m.output.toString(), value};
    }

    void step() {
        if (steps == stepsMost) throw new End(STEPS_END);
        steps++;
    }

    void push(Object word) {
        if (pile.size() == 6000) throw new End(PILE_END);
        pile.add(word);
        pileMost = Math.max(pileMost, pile.size());
    }

    Object pop() {
        return pile.remove(pile.size() - 1);
    }

    /** Takes all from a place on off the pile, but leaves what is on top there. */
    void slide(int place) {
        Object top = pop();
        cut(place);
        pile.add(top);
    }

    void cut(int size) {
        while (pile.size() > size) pile.remove(pile.size() - 1);
    }

    void mark(int words) {
        for (int k = 0; k < words; k++) push(MARK);
    }

    void need(int words) {
        if (heap - used < words) {
            step();
            collections++;
            used = reached();
            if (heap - used < words) throw new End(HEAP_END);
        }
        used += words;
    }

    private int reached() {
        Set<Object> met = Collections.newSetFromMap(new IdentityHashMap<>());
        List<Object> waiting = new ArrayList<>(pile);
        int words = 0;
        while (!waiting.isEmpty()) {
            Object one = waiting.remove(waiting.size() - 1);
            if (!(one instanceof Thing thing) || !met.add(one)) continue;
            words += thing.words;
            Collections.addAll(waiting, thing.parts);
        }
        return words;
    }

    /** Makes a thing of what is on top of the pile, and puts it there instead. */
    void gather(char kind, String name, int words, int parts) {
        need(words);
        Object[] row = pile.subList(pile.size() - parts, pile.size()).toArray();
        cut(pile.size() - parts);
        pile.add(new Thing(kind, name, words, null, row));
    }

    /** The element and the list behind it, on top of the pile, become a list. */
    void cons() {
        need(5);
        Object list = pop();
        Object element = pop();
        pile.add(new Thing('c', "::", 2, null, new Thing('t', "", 3, null, element, list)));
    }

    static int stringWords(int bytes) {
        return 1 + (bytes + 3) / 4;
    }

    /** A new string comes instead of so many words on top of the pile. */
    void string(String bytes, int instead) {
        need(stringWords(bytes.length()));
        cut(pile.size() - instead);
        push(new Thing('s', bytes, stringWords(bytes.length()), null));
    }

    static int wrapped(int n) {
        return n << 1 >> 1;
    }

    /** The function and the argument on top of the pile are applied: true for a call in tail position. */
    boolean apply(int frame, boolean tail) {
        step();
        Object function = pile.get(pile.size() - 2);
        Object argument = pile.get(pile.size() - 1);
        if (function instanceof Plain known) {
            known(known.name, argument);
            return false;
        }
        if (tail && frame >= 0) {
            pile.set(frame, function);
            pile.set(frame + 1, argument);
            cut(frame + 4);
            return true;
        }
        mark(2);
        call(pile.size() - 4);
        return false;
    }

    private void call(int frame) {
        while (true) {
            Thing function = (Thing) pile.get(frame);
            if (!function.code.run(this, function, frame)) break;
        }
        slide(frame);
    }

    private void instead(Object value) {
        pop();
        pop();
        pile.add(value);
    }

    private void known(String name, Object argument) {
        switch (name) {
            case "~" -> instead(wrapped(-(Integer) argument));
            case "!" -> instead(((Thing) argument).parts[0]);
            case "not" -> instead(argument == TRUE ? FALSE : TRUE);
            case "print" -> {
                output.append(((Thing) argument).name);
                instead(UNIT);
            }
            case "put" -> {
                output.append(number((Integer) argument)).append('\n');
                instead(UNIT);
            }
            case "size" -> instead(((Thing) argument).name.length());
            case "many" -> instead(input.length);
            case "str" -> string(number((Integer) argument), 2);
            case "chr" -> {
                int n = (Integer) argument;
                if (n < 0 || n > 255) throw new Raised(new Plain("Chr", false));
                string("" + (char) n, 2);
            }
            case "sub" -> {
                Thing pair = (Thing) argument;
                String s = ((Thing) pair.parts[0]).name;
                int n = (Integer) pair.parts[1];
                if (n < 0 || n >= s.length()) throw new Raised(new Plain("Subscript", false));
                instead((int) s.charAt(n));
            }
            case "given" -> {
                int n = (Integer) argument;
                if (n < 0 || n >= input.length) throw new Raised(new Plain("Subscript", false));
                instead(wrapped(input[n]));
            }
            default -> {
                need(2);
                instead(new Thing('c', name, 2, null, argument));
            }
        }
    }

    static String number(int n) {
        return n < 0 ? "~" + -n : "" + n;
    }

    /** A value as it is written. */
    static String written(Object value) {
        StringBuilder s = new StringBuilder();
        write(value, 0, false, s);
        return s.length() > 1900 ? s.substring(0, 1900) + ".." : s.toString();
    }

    private static void write(Object value, int depth, boolean argument, StringBuilder s) {
        if (s.length() > 1900) return;
        if (value instanceof Integer n) {
            s.append(number(n));
        } else if (value instanceof Plain plain) {
            s.append(plain.isFunction ? "fn" : plain.name);
        } else {
            Thing thing = (Thing) value;
            if (thing.kind == 's') writeString(thing.name, s);
            else if (thing.kind == 'f') s.append("fn");
            else if (depth == 20) s.append('#');
            else writeThing(thing, depth + 1, argument, s);
        }
    }

    private static void writeThing(Thing thing, int depth, boolean argument, StringBuilder s) {
        if (thing.kind == 't') {
            for (int k = 0; k < thing.parts.length; k++) {
                s.append(k == 0 ? "(" : ", ");
                write(thing.parts[k], depth, false, s);
            }
            s.append(')');
        } else if (thing.name.equals("::")) {
            Object rest = thing;
            String ahead = "[";
            while (rest instanceof Thing cell) {
                Thing pair = (Thing) cell.parts[0];
                s.append(ahead);
                write(pair.parts[0], depth, false, s);
                rest = pair.parts[1];
                ahead = ", ";
            }
            s.append(']');
        } else {
            s.append(argument ? "(" : "").append(thing.name).append(' ');
            write(thing.parts[0], depth, true, s);
            if (argument) s.append(')');
        }
    }

    private static void writeString(String bytes, StringBuilder s) {
        s.append('"');
        for (char c : bytes.toCharArray()) {
            if (c == '"' || c == '\\') s.append('\\').append(c);
            else if (c == '\n') s.append("\\n");
            else if (c == '\t') s.append("\\t");
            else if (c < 32 || c > 126) s.append('\\').append(("" + (1000 + c)).substring(1));
            else s.append(c);
        }
        s.append('"');
    }
}
