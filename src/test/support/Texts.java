import java.util.ArrayList;
import java.util.List;

/**
 * Texts made from a seed: by the grammar alone, names as they come, or by type, so that they are programs;
 * then perhaps with some tokens changed, and put together with all sorts of blanks.
 */
final class Texts {
    /** A type that is wanted: its name and its parts. */
    record Want(String name, List<Want> parts) {
        static Want of(String name, Want... parts) {
            return new Want(name, List.of(parts));
        }

        String written() {
            if (name.equals("->")) return "(" + parts.get(0).written() + " -> " + parts.get(1).written() + ")";
            if (name.equals("*")) return "(" + parts.get(0).written() + " * " + parts.get(1).written() + ")";
            if (parts.size() == 2) return "(" + parts.get(0).written() + ", " + parts.get(1).written() + ") " + name;
            return parts.isEmpty() ? name : parts.get(0).written() + " " + name;
        }
    }

    private record Variable(String name, Want type) {
    }

    private static final Want INT = Want.of("int"), BOOL = Want.of("bool"), STRING = Want.of("string"), UNIT = Want.of("unit"), EXN = Want.of("exn");
    private static final String[] NAMES = {"x", "y", "z", "f", "g", "A", "B", "C", "D", "E", "N", "S", "not", "nil", "true", "Match", "id", "k", "t", "u", "int", "list", "x'", "a_1"};
    private static final String[] VARIABLES = {"'a", "'b", "'val"};
    private static final String[] NUMBERS = {"0", "1", "~1", "7", "2", "3", "9", "12", "1073741823", "~1073741824"};
    private static final String[] STRINGS = {"\"\"", "\"a\"", "\"\\n\\t\\\\\\\"\\255\"", "\"(* \""};
    private static final String[] BLANKS = {" ", " ", " ", " ", " ", " ", " ", "\n", "\t", "  ", " (* a *) ", "(* (* ~ *) *)", ""};
    private static final String[] OPERATORS = {"orelse", "andalso", ":=", "=", "<>", "<", ">", "<=", ">=", "::", "+", "-", "^", "*", "div", "mod"};
    private static final String[] PRELUDE = {"fun id x = x", "fun k x y = x", "datatype 'a o = N | S of 'a", "datatype ( 'a , 'b ) e = L of 'a | R of 'b",
        "exception X of int * string", "fun map f [ ] = [ ] | map f ( x :: r ) = f x :: map f r", "val none = nil", "val rec loop = fn x => loop x",
        "fun upto n = if n <= 0 then [ ] else n :: upto ( n - 1 )", "fun sum l = case l of [ ] => 0 | x :: r => x + sum r",
        "fun even 0 = true | even n = odd ( n - 1 ) and odd 0 = false | odd n = even ( n - 1 )"};
    private static final int ID = 0, K = 1, OPTION = 2, EITHER = 3, EXCEPTION = 4, MAP = 5, NONE = 6, LOOP = 7, UPTO = 8, SUM = 9, EVEN = 10;

    private final List<String> tokens = new ArrayList<>();
    private final List<Variable> scope = new ArrayList<>();
    private final boolean[] has = new boolean[PRELUDE.length];
    private long seed;
    private int names;

    private Texts(long seed) {
        this.seed = seed * 0x9e3779b97f4a7c15L;
    }

    static String of(long seed) {
        Texts texts = new Texts(seed);
        int kind = texts.below(8);
        if (kind == 0) texts.atTheLimit();
        else if (kind == 1) texts.anyProgram();
        else if (kind < 4) texts.generalProgram();
        else texts.typedProgram();
        int changes = texts.below(2) == 0 ? 0 : 1 + texts.below(3);
        for (int k = 0; k < changes; k++) texts.change();
        return texts.put();
    }

    private int below(int n) {
        seed = seed * 6364136223846793005L + 1442695040888963407L;
        return (int) ((seed >>> 33) % n);
    }

    private String one(String... of) {
        return of[below(of.length)];
    }

    private void add(String... more) {
        for (String s : more) if (!s.isEmpty()) tokens.addAll(List.of(s.split(" ")));
    }

    private String put() {
        StringBuilder text = new StringBuilder();
        boolean wild = below(16) == 0;
        for (String token : tokens) text.append(token).append(wild ? one(BLANKS) : " ");
        if (below(40) == 0) text.insert(below(text.length() + 1), one("\"", "(*", "*)", "~", "'", "1", "#", ")", "_", "\\"));
        return text.toString();
    }

    private static String sort(String token) {
        if (Tokens.WORDS.contains(token)) return token;
        if (List.of(OPERATORS).contains(token)) return "operator";
        char c = token.charAt(0);
        return Character.isLetter(c) ? "a" : Character.isDigit(c) ? "0" : c == '\'' ? "'" : token;
    }

    /** Puts another token in the place of one, mostly one of the same sort, so that the grammar allows it. */
    private void change() {
        if (tokens.isEmpty()) return;
        int k = below(tokens.size());
        for (int n = below(4) == 0 ? 0 : 40; n > 0; n--) {
            String other = below(4) == 0 ? one(NAMES) : tokens.get(below(tokens.size()));
            if (!other.equals(tokens.get(k)) && sort(other).equals(sort(tokens.get(k)))) {
                tokens.set(k, other);
                return;
            }
            k = below(tokens.size());
        }
        switch (below(6)) {
            case 0:
                tokens.remove(k);
                break;
            case 1:
                tokens.add(k, tokens.get(below(tokens.size())));
                break;
            case 2:
                tokens.set(k, one(NAMES));
                break;
            case 3:
                tokens.set(k, tokens.get(below(tokens.size())));
                break;
            case 4:
                List<String> any = below(2) == 0 ? List.of(NAMES) : below(2) == 0 ? Tokens.SIGNS : Tokens.WORDS;
                tokens.add(k, any.get(below(any.size())));
                break;
            default:
                int other = below(tokens.size());
                String token = tokens.set(k, tokens.get(other));
                tokens.set(other, token);
                break;
        }
    }

    // At a limit.

    private void atTheLimit() {
        switch (below(8)) {
            case 0 -> open();
            case 1 -> openTypes();
            case 2 -> fields();
            case 3 -> atpats();
            case 4 -> cons();
            case 5 -> variables();
            case 6 -> parts();
            default -> manyTokens();
        }
    }

    private void manyTokens() {
        add("in (");
        for (int k = 994 + below(6); k > 0; k--) add("1 ;");
        add(one("1", "~ 1", "1 , 1", "2 )", "2 ) )"), one("", ")"));
    }

    private void times(int n, String... of) {
        for (int k = 0; k < n; k++) add(one(of));
    }

    private void open() {
        String[] around = {"( . )", "( 1 ; . )", "[ . ]", "fn x => .", "fn ( x as 1 :: _ ) => .", "raise .", "if . then 1 else 2", "if true then 1 else .", "while true do .",
            "case . of _ => 1", "case 1 of 2 => 3 | _ => .", "1 :: ( . )", "true andalso ( . )", "true orelse fn x => .", "1 handle _ => .", "let in . end",
            "let val x = . in x end", "( . : int )", "r := ( . )", "[ 1 , . ]"};
        add("in");
        within(20 + below(22), around, "x", "( )", "[ ]", "fn x => x", "1 :: 2", "x andalso y", "1 handle x => 1", "if x then y else z", "fn ( ( x ) ) => 1",
            "1 : ( int -> int ) -> int", "fn ( x as 1 ) => 1", "fn 1 :: _ => 1", "let in 1 end", "let val rec f = fn x => x in f end", "let fun f ( ) = 1 in 1 end");
    }

    private void openTypes() {
        String[] around = {"( . )", "int -> .", "int * ( . )", "( . ) list", "( int , . ) t", "( . -> int )", "int list -> ."};
        String[] ahead = {"datatype t = A of", "exception A of", "in 1 :", "val x :", "fun f x :"};
        int place = below(ahead.length);
        add(ahead[place]);
        within(36 + below(6), around, "int", "int -> int", "( int )", "'a", "int * int");
        add(place < 2 ? "in 1" : place > 2 ? "= 1 in 2" : "");
    }

    /** One of the last ones within so many of the first ones, each where there is a point. */
    private void within(int depth, String[] around, String... last) {
        String all = one(last);
        for (int k = 0; k < depth; k++) all = one(around).replace(".", all);
        add(all);
    }

    private void fields() {
        String[] places = {"in (", "in fn (", "val (", "fun f (", "datatype t = A of int *", "exception E of ( int *", "in 1 : int *"};
        int place = below(places.length);
        add(places[place]);
        for (int k = 28 + below(4); k > 0; k--) add(place < 4 ? one("x ,", "( ) ,", "1 ,", "[ ] ,") : one("int *", "( int ) *", "unit *"));
        add(place < 4 ? one("x", "_", "let", "of", ")", "fn") : one("int", "'a", "(", "ref", "1", "val"), ")");
    }

    private void atpats() {
        add("fun f");
        times(11 + below(4), "_", "1", "( )", "[ ]", "( 1 )");
        add(one("=", "x =", ": int =", "let"), "1 in f");
    }

    private void cons() {
        int types = 1 + below(32);
        add("datatype");
        for (int k = 0; k < types; k++) {
            add("t" + k, "=", "A" + k);
            if (k < types - 1) add(one("and", "datatype"));
        }
        int all = 58 + below(5);
        int more = below(3) == 0 ? types : types + below(40);
        for (int k = types; k < all; k++) add(k < more ? "|" : "exception", "A" + k);
        add("in 1");
    }

    private void variables() {
        int most = 96 + below(8);
        for (int k = 0; k < most; k++) {
            switch (below(5)) {
                case 0 -> add("fun f" + k, "x = x");
                case 1 -> add("val rec f" + k, "= fn x => x");
                case 2 -> add("val x" + k++, ":: [ x" + k, "] = [ 1 , 2 ]");
                case 3 -> add("fun f" + k++, "x y = y and f" + k, "1 = 2");
                default -> add("val x = 1");
            }
        }
        add("in");
        times(below(5), "fn x =>", "let val y = 1 in", "fn ( x , y ) =>", "case 1 of x as y =>");
        add("1");
    }

    /** Types of about a hundred parts, general or not. */
    private void parts() {
        add("fun two x = ( x , x ) fun four x = two ( two x )");
        add(one("val", "val x as", "val ( y , 1 ) ="), "f = fn x => (");
        for (int k = 90 + below(8); k > 0; k = k - 20) add("(", String.join(" , ", java.util.Collections.nCopies(Math.min(k, 20), one("x", "x", "1"))), ") ,");
        add("x ) datatype 'a t = A of 'a *");
        times(4 + below(2), "( int -> int -> int ) *", "( int * int * 'a ) *", "int list ref *");
        add(String.join(" * ", java.util.Collections.nCopies(19 + below(3), one("int list list", "( int -> int )", "( 'a * bool )"))), "in f");
    }

    // By the grammar alone.

    private void anyProgram() {
        anyDecs(below(4), true, 3);
        add("in");
        anyExp(4);
    }

    private void anyDecs(int most, boolean outermost, int depth) {
        for (int n = 0; n < most; n++) {
            switch (below(outermost ? 6 : 4)) {
                case 0, 1:
                    add("val");
                    anyPat(depth - 1);
                    add("=");
                    anyExp(depth);
                    break;
                case 2:
                    add("val", "rec", one(NAMES), "=", "fn");
                    anyMatch(depth);
                    break;
                case 3:
                    anyFun(depth);
                    break;
                case 4:
                    anyDatatype();
                    break;
                default:
                    add("exception");
                    anyCon();
                    break;
            }
            if (below(3) == 0) add(";");
        }
    }

    private void anyFun(int depth) {
        String between = "fun";
        String name = one(NAMES);
        int atpats = 1 + below(3);
        do {
            add(between, name);
            for (int k = below(20) == 0 ? 1 : 0; k < atpats; k++) anyAtpat(depth - 1);
            if (below(5) == 0) {
                add(":");
                anyType(2);
            }
            add("=");
            anyExp(depth);
            between = one("|", "and", "", "");
            if (between.equals("and")) name = one(NAMES);
            if (between.equals("and")) atpats = 1 + below(3);
        } while (!between.isEmpty());
    }

    private void anyDatatype() {
        String between = "datatype";
        do {
            add(between);
            int variables = below(4);
            if (variables == 1) add(one(VARIABLES));
            if (variables == 2) add("(", one(VARIABLES), ",", one(VARIABLES), ")");
            add(below(2) == 0 ? "t" + below(3) : one(NAMES), "=");
            anyCon();
            while (below(2) == 0) {
                add("|");
                anyCon();
            }
            between = one("and", "", "");
        } while (!between.isEmpty());
    }

    private void anyCon() {
        add(below(2) == 0 ? "C" + below(6) : one(NAMES));
        if (below(2) == 0) return;
        add("of");
        anyType(3);
    }

    private void anyType(int depth) {
        switch (below(depth <= 0 ? 3 : 8)) {
            case 0:
                add(one("int", "bool", "unit", "t0", "t1", "exn", "string"));
                break;
            case 1:
                add(one(VARIABLES));
                break;
            case 2:
                add(one("int", "'a"), one("list", "ref", "t0", "t"));
                break;
            case 3, 4:
                anyType(depth - 1);
                add("->");
                anyType(depth - 1);
                break;
            case 5:
                anyType(depth - 1);
                add("*");
                anyType(depth - 1);
                break;
            case 6:
                add("(");
                anyType(depth - 1);
                add(",");
                anyType(depth - 1);
                add(")", one("t0", "t1", "e", "list"));
                break;
            default:
                add("(");
                anyType(depth - 1);
                add(")");
                break;
        }
    }

    private void anyPat(int depth) {
        switch (below(depth <= 0 ? 2 : 7)) {
            case 0, 1, 2:
                anyAtpat(depth);
                break;
            case 3:
                anyAtpat(depth - 1);
                add("::");
                anyPat(depth - 1);
                break;
            case 4:
                add(one(NAMES), "as");
                anyPat(depth - 1);
                break;
            case 5:
                add(one("C0", "C1", "C2", "S", "A"));
                anyAtpat(depth - 1);
                break;
            default:
                anyPat(depth - 1);
                add(":");
                anyType(2);
                break;
        }
    }

    private void anyAtpat(int depth) {
        switch (below(depth <= 0 ? 5 : 8)) {
            case 0:
                add("_");
                break;
            case 1, 2, 3:
                add(below(4) == 0 ? "C" + below(6) : one(NAMES));
                break;
            case 4:
                add(below(2) == 0 ? one(NUMBERS) : "( )");
                break;
            case 5:
                anyRow("(", ")", depth, k -> anyPat(depth - 1));
                break;
            case 6:
                anyRow("[", "]", depth, k -> anyPat(depth - 1));
                break;
            default:
                add("(");
                anyPat(depth - 1);
                add(")");
                break;
        }
    }

    private interface Part {
        void put(int k);
    }

    private void anyRow(String open, String close, int depth, Part part) {
        add(open);
        int most = below(4);
        for (int k = 0; k < most; k++) {
            if (k > 0) add(",");
            part.put(k);
        }
        add(close);
    }

    private void anyMatch(int depth) {
        int rules = 1 + below(3);
        for (int k = 0; k < rules; k++) {
            if (k > 0) add("|");
            anyPat(depth - 1);
            add("=>");
            if (k == rules - 1) anyExp(depth - 1);
            else anyPart(depth - 1);
        }
    }

    /** What may stand where only an ATEXP may, if it is in ( ); now and then it isn't. */
    private void anyPart(int depth) {
        if (below(12) > 0) add("(");
        boolean round = tokens.get(tokens.size() - 1).equals("(");
        anyExp(depth);
        if (round) add(")");
    }

    private void anyExp(int depth) {
        switch (below(depth <= 0 ? 4 : 18)) {
            case 0, 1, 2:
                add(one(NAMES));
                break;
            case 3:
                add(below(3) == 0 ? one(NUMBERS) : below(2) == 0 ? one(STRINGS) : below(2) == 0 ? "( )" : one("~", "!", "ref", "[ ]"));
                break;
            case 4:
                add("fn");
                anyMatch(depth);
                break;
            case 5:
                add("case");
                anyExp(depth - 1);
                add("of");
                anyMatch(depth);
                break;
            case 6:
                add("if");
                anyExp(depth - 1);
                add("then");
                anyExp(depth - 1);
                add("else");
                anyExp(depth - 1);
                break;
            case 7:
                add(below(2) == 0 ? "raise" : "while");
                boolean loop = tokens.get(tokens.size() - 1).equals("while");
                anyExp(depth - 1);
                if (loop) add("do");
                if (loop) anyExp(depth - 1);
                break;
            case 8:
                anyPart(depth - 1);
                add("handle");
                anyMatch(depth);
                break;
            case 9, 10:
                anyPart(depth - 1);
                add(one(OPERATORS));
                anyPart(depth - 1);
                break;
            case 11:
                anyPart(depth - 1);
                add(":");
                anyType(2);
                break;
            case 12, 13:
                anyPart(depth - 1);
                anyPart(depth - 1);
                break;
            case 14:
                anyRow("(", ")", depth, k -> anyExp(depth - 1));
                break;
            case 15:
                anyRow("[", "]", depth, k -> anyExp(depth - 1));
                break;
            case 16:
                add("(");
                anyExp(depth - 1);
                add(";");
                anyExp(depth - 1);
                add(")");
                break;
            default:
                add("let");
                anyDecs(below(3), below(20) == 0, depth - 1);
                add("in");
                anyExp(depth - 1);
                if (below(3) == 0) add("; x");
                add("end");
                break;
        }
    }

    // What may become general, or not: terms of variables, whatever their types.

    private void generalProgram() {
        add("datatype 'a o = N | S of 'a exception X of int");
        generalDecs(1 + below(4), 2);
        add("in");
        anyUse();
    }

    /** What was declared, at several types. */
    private void anyUse() {
        add("(");
        int uses = 1 + below(3);
        for (int k = 0; k < uses; k++) {
            if (k > 0) add(",");
            if (below(3) == 0) {
                general(1);
                continue;
            }
            String name = seen();
            add("(", name, below(2) == 0 ? ":" : "");
            if (tokens.get(tokens.size() - 1).equals(":")) generalType(1);
            else add(one("1", "true", "nil", "( fn x => x )", "[ ( ) ]", "( S 1 )", "( ref N )", ":: [ 1 ]", ":= [ true ]", ""));
            add(")");
        }
        add(")");
    }

    private String seen() {
        return scope.isEmpty() || below(30) == 0 ? one("x", "nil", "N", "id", "ref", "!") : scope.get(below(2) == 0 ? scope.size() - 1 : below(scope.size())).name;
    }

    private String bound() {
        String name = one("x", "y", "z", "f", "g", "h", "id", "p", "q", "v", "w");
        scope.add(new Variable(name, UNIT));
        return name;
    }

    private void generalDecs(int most, int depth) {
        for (int n = 0; n < most; n++) {
            int size = scope.size();
            switch (below(4)) {
                case 0, 1:
                    add("val");
                    int at = tokens.size();
                    add("=");
                    generalTerm(depth);
                    List<String> behind = new ArrayList<>(tokens.subList(at, tokens.size()));
                    tokens.subList(at, tokens.size()).clear();
                    generalPat(1);
                    tokens.addAll(behind);
                    break;
                case 2:
                    add("val", "rec", bound(), "=", "fn");
                    generalPat(1);
                    add("=>");
                    generalTerm(depth);
                    forget(size + 1);
                    break;
                default:
                    add("fun", bound());
                    generalPat(0);
                    if (below(3) == 0) generalPat(0);
                    if (below(4) == 0) add(":");
                    if (tokens.get(tokens.size() - 1).equals(":")) generalType(1);
                    add("=");
                    generalTerm(depth);
                    forget(size + 1);
                    break;
            }
        }
    }

    private void generalPat(int depth) {
        switch (below(depth > 0 ? 14 : 9)) {
            case 0 -> {
                add("(", bound(), ":");
                generalType(1);
                add(")");
            }
            case 9 -> add("_");
            case 10 -> {
                add("(");
                generalPat(0);
                add(",");
                generalPat(0);
                add(")");
            }
            case 11 -> {
                add("(", bound(), "as");
                generalPat(0);
                add(")");
            }
            default -> add(bound());
        }
    }

    private void generalType(int depth) {
        String part = one("'a", "'a", "'b", "int", "bool");
        if (depth <= 0) add(part);
        else add(one(part, part + " list", part + " -> 'a", part + " -> " + part, part + " o", part + " * 'b", part + " ref", "( 'a -> 'a ) list"));
    }

    private void general(int depth) {
        add("(");
        generalTerm(depth);
        add(")");
    }

    private void generalTerm(int depth) {
        int size = scope.size();
        switch (below(depth <= 0 ? 4 : 16)) {
            case 0, 1, 2 -> add(seen());
            case 3 -> add(one("nil", "N", "[ ]", "1", "true", "!", "( raise Match )", "( fn p => p )"));
            case 4, 5, 6 -> {
                add("fn");
                generalPat(1);
                add("=>");
                generalTerm(depth - 1);
            }
            case 7 -> {
                add(one("S", "( S )", "ref", "( S : 'a -> 'a o )", "( ( S ) )", "id", "X"));
                general(depth - 1);
            }
            case 8 -> {
                general(depth - 1);
                add(one(":: nil", "", "", ", ", ":", "; 1"));
                String last = tokens.get(tokens.size() - 1);
                if (last.equals(":")) generalType(1);
                else if (last.equals(",")) tokens.remove(tokens.size() - 1);
            }
            case 9 -> {
                add("(");
                generalTerm(depth - 1);
                add(":");
                generalType(1);
                add(")");
            }
            case 10 -> {
                add("(");
                general(depth - 1);
                add(one(",", ";", "::"));
                general(depth - 1);
                add(")");
            }
            case 11, 12 -> {
                add("let");
                generalDecs(1 + below(2), depth - 1);
                add("in");
                generalTerm(depth - 1);
                add("end");
            }
            case 13 -> {
                add("[");
                general(depth - 1);
                add("]");
            }
            case 14 -> {
                add("case");
                generalTerm(depth - 1);
                add("of");
                generalPat(1);
                add("=>");
                generalTerm(depth - 1);
            }
            default -> {
                add(seen());
                general(depth - 1);
            }
        }
        forget(size);
    }

    // By type.

    private void typedProgram() {
        for (int k = 0; k < PRELUDE.length; k++) {
            has[k] = below(3) > 0;
            if (has[k]) add(PRELUDE[k]);
        }
        typedDecs(below(5), 3);
        add("in");
        exp(want(3), 4);
    }

    private Want want(int depth) {
        switch (below(depth <= 0 ? 4 : 11)) {
            case 0:
                return INT;
            case 1:
                return BOOL;
            case 2:
                return below(2) == 0 ? STRING : UNIT;
            case 3:
                return below(3) == 0 ? EXN : INT;
            case 4:
                return Want.of("list", want(depth - 1));
            case 5:
                return Want.of("ref", want(depth - 1));
            case 6:
                return Want.of("*", want(depth - 1), want(depth - 1));
            case 7:
                return has[OPTION] ? Want.of("o", want(depth - 1)) : INT;
            case 8:
                return has[EITHER] ? Want.of("e", want(depth - 1), want(depth - 1)) : INT;
            default:
                return Want.of("->", want(depth - 1), want(depth - 1));
        }
    }

    private String bind(Want type) {
        String name = below(6) == 0 ? one("x", "y", "f", "not", "size") : "v" + names++;
        scope.add(new Variable(name, type));
        return name;
    }

    private void forget(int size) {
        while (scope.size() > size) scope.remove(scope.size() - 1);
    }

    private void typedDecs(int most, int depth) {
        for (int n = 0; n < most; n++) {
            Want type = want(2);
            int size = scope.size();
            switch (below(4)) {
                case 0:
                    List<String> ahead = new ArrayList<>(tokens);
                    tokens.clear();
                    exp(type, depth);
                    List<String> exp = new ArrayList<>(tokens);
                    tokens.clear();
                    tokens.addAll(ahead);
                    add("val");
                    pat(type, 2);
                    add("=");
                    tokens.addAll(exp);
                    break;
                case 1:
                    Want from = want(1);
                    String rec = bind(Want.of("->", from, type));
                    add("val", "rec", rec, "=", "fn");
                    pat(from, 1);
                    add("=>");
                    exp(type, depth);
                    forget(size + 1);
                    break;
                default:
                    fun(type, depth);
                    break;
            }
            if (below(3) == 0) add(";");
        }
    }

    private void fun(Want result, int depth) {
        List<Want> arguments = new ArrayList<>();
        Want type = result;
        int atpats = 1 + below(3);
        for (int k = 0; k < atpats; k++) arguments.add(0, want(1));
        for (int k = atpats - 1; k >= 0; k--) type = Want.of("->", arguments.get(k), type);
        String name = bind(type);
        int size = scope.size();
        String between = "fun";
        int clauses = 1 + below(3);
        for (int n = 0; n < clauses; n++) {
            add(between, name);
            for (Want argument : arguments) {
                add("(");
                pat(argument, 2);
                add(")");
            }
            if (below(4) == 0) add(":", spaced(result));
            add("=", "(");
            exp(result, depth);
            add(")");
            forget(size);
            between = "|";
        }
    }

    private void pat(Want type, int depth) {
        if (depth > 0 && below(3) > 0) {
            switch (type.name) {
                case "*":
                    add("(");
                    pat(type.parts.get(0), depth - 1);
                    add(",");
                    pat(type.parts.get(1), depth - 1);
                    add(")");
                    return;
                case "list":
                    if (below(3) == 0) {
                        add(one("nil", "[ ]"));
                        return;
                    }
                    add("(");
                    pat(type.parts.get(0), depth - 1);
                    add("::");
                    pat(type, depth - 1);
                    add(")");
                    return;
                case "o":
                    if (below(3) == 0) {
                        add("N");
                        return;
                    }
                    add("( S (");
                    pat(type.parts.get(0), depth - 1);
                    add(") )");
                    return;
                case "int":
                    add("" + below(9));
                    return;
                case "bool":
                    add(one("true", "false"));
                    return;
                case "exn":
                    add(one("Match", "Div", "Subscript", "Chr", "Bind"));
                    return;
                default:
                    break;
            }
        }
        switch (below(6)) {
            case 0:
                add("_");
                break;
            case 1:
                add("(", bind(type), ":", spaced(type), ")");
                break;
            case 2:
                add("(", bind(type), "as");
                pat(type, depth - 1);
                add(")");
                break;
            default:
                add(bind(type));
                break;
        }
    }

    private static String spaced(Want type) {
        return type.written().replace("(", "( ").replace(")", " )").replace(",", " ,");
    }

    private boolean variable(Want type) {
        for (int n = 0; n < 4 && !scope.isEmpty(); n++) {
            Variable v = scope.get(below(scope.size()));
            if (!v.type.equals(type)) continue;
            add(v.name);
            return true;
        }
        return false;
    }

    private void match(Want from, Want to, int depth) {
        int rules = 1 + below(2);
        for (int k = 0; k < rules; k++) {
            int size = scope.size();
            if (k > 0) add("|");
            pat(from, 2);
            add("=>");
            exp(to, depth - 1);
            forget(size);
        }
    }

    private void leaf(Want type) {
        if (below(4) > 0 && variable(type)) return;
        switch (type.name) {
            case "int" -> add(below(3) == 0 ? "( many ( ) )" : "" + below(20));
            case "bool" -> add(one("true", "false"));
            case "string" -> add(one("\"\"", "\"a\""));
            case "unit" -> add("( )");
            case "exn" -> add(has[EXCEPTION] && below(2) == 0 ? "( X ( 1 , \"\" ) )" : one("Match", "Div"));
            case "list" -> add(has[NONE] && below(2) == 0 ? "none" : one("nil", "[ ]"));
            case "->" -> {
                add("(", "fn", "_", "=>");
                leaf(type.parts.get(1));
                add(")");
            }
            case "*" -> both("(", type.parts.get(0), ",", type.parts.get(1), ")");
            case "o" -> add("N");
            case "ref" -> both("(", Want.of("->", type.parts.get(0), type), "", type.parts.get(0), ")");
            default -> add("( raise Match )");
        }
    }

    private void both(String open, Want one, String between, Want other, String close) {
        add(open);
        if (between.isEmpty()) add("ref");
        else leaf(one);
        if (!between.isEmpty()) add(between);
        leaf(other);
        add(close);
    }

    private void exp(Want type, int depth) {
        if (depth <= 0) {
            leaf(type);
            return;
        }
        int size = scope.size();
        switch (below(14)) {
            case 0:
                add("(", "if");
                exp(BOOL, depth - 1);
                add("then");
                exp(type, depth - 1);
                add("else");
                exp(type, depth - 1);
                add(")");
                break;
            case 1:
                add("(", "case");
                Want of = want(2);
                exp(of, depth - 1);
                add("of");
                match(of, type, depth);
                add(")");
                break;
            case 2:
                add("let");
                typedDecs(1 + below(2), depth - 1);
                add("in");
                exp(type, depth - 1);
                add("end");
                break;
            case 3:
                add("(");
                exp(type, depth - 1);
                add("handle");
                match(EXN, type, depth);
                add(")");
                break;
            case 4:
                add("(");
                exp(type, depth - 1);
                add(":", spaced(type), ")");
                break;
            case 5:
                add("(");
                exp(want(1), depth - 1);
                add(";");
                exp(type, depth - 1);
                add(")");
                break;
            case 6:
                apply(Want.of("->", want(1), type), depth);
                break;
            case 7:
                general(type, depth);
                break;
            default:
                build(type, depth);
                break;
        }
        forget(size);
    }

    private void apply(Want function, int depth) {
        add("(");
        exp(function, depth - 1);
        exp(function.parts.get(0), depth - 1);
        add(")");
    }

    /** By what is general. */
    private void general(Want type, int depth) {
        int which = below(6);
        if (which == 0 && has[ID]) {
            add("(", "id");
            exp(type, depth - 1);
            add(")");
        } else if (which == 1 && has[K]) {
            add("(", "k");
            exp(type, depth - 1);
            exp(want(1), depth - 1);
            add(")");
        } else if (which == 2 && has[LOOP]) {
            add("(", "loop");
            exp(want(1), depth - 1);
            add(")");
        } else if (type.equals(Want.of("list", INT)) && has[UPTO]) {
            add("( upto " + below(20), ")");
        } else if (type == INT && has[SUM]) {
            add("( sum");
            exp(Want.of("list", INT), depth - 1);
            add(")");
        } else if (type == BOOL && has[EVEN]) {
            add("( even " + below(300), ")");
        } else if (type == UNIT) {
            Want of = below(2) == 0 ? INT : STRING;
            add("(", of == INT ? "put" : "print");
            exp(of, depth - 1);
            add(")");
        } else if (type == STRING) {
            add("(", one("str", "chr"));
            exp(INT, depth - 1);
            add(")");
        } else if (type.name.equals("list") && has[MAP]) {
            Want from = want(1);
            add("(", "map");
            exp(Want.of("->", from, type.parts.get(0)), depth - 1);
            exp(Want.of("list", from), depth - 1);
            add(")");
        } else {
            add("(", "!");
            exp(Want.of("ref", type), depth - 1);
            add(")");
        }
    }

    private void build(Want type, int depth) {
        add("(");
        switch (type.name) {
            case "int", "bool", "string":
                Want side = type.name.equals("bool") && below(2) == 0 ? BOOL : type.name.equals("string") ? STRING : INT;
                exp(side, depth - 1);
                add(side == BOOL ? one("andalso", "orelse") : side == STRING ? "^" : type.name.equals("int") ? one("+", "-", "*", "div", "mod") : one("=", "<", ">="));
                exp(side, depth - 1);
                break;
            case "unit":
                Want cell = want(1);
                exp(Want.of("ref", cell), depth - 1);
                add(":=");
                exp(cell, depth - 1);
                break;
            case "list":
                exp(type.parts.get(0), depth - 1);
                add("::");
                exp(type, depth - 1);
                break;
            case "*":
                exp(type.parts.get(0), depth - 1);
                add(",");
                exp(type.parts.get(1), depth - 1);
                break;
            case "->":
                add("fn");
                match(type.parts.get(0), type.parts.get(1), depth);
                break;
            case "o":
                add("S");
                exp(type.parts.get(0), depth - 1);
                break;
            case "e":
                int side2 = below(2);
                add(side2 == 0 ? "L" : "R");
                exp(type.parts.get(side2), depth - 1);
                break;
            case "ref":
                add("ref");
                exp(type.parts.get(0), depth - 1);
                break;
            default:
                leaf(type);
                break;
        }
        add(")");
    }
}
