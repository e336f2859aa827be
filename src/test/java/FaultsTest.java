/** Part C of the document: what is at fault, where, and which of several faults is the first. */
public final class FaultsTest extends Houses {
    /** "all of these by tokens, ahead of the others". */
    private static void byTokensFirst() {
        fault(SYNTAX, "in (x, 1 + true \u00a7then");
        fault(SYNTAX, "datatype t = A of u | A in f x y\u00a7)");
        fault(SYNTAX, "val (x, x) = y in 1 +\u00a7");
        fault(TOKEN, "in x \u00a7#");
        fault(TOKEN, "in fn (x, x) => \u00a712a");
        fault(MANY, "in x " + times("(", 40) + "\u00a7(");
        fault(MANY, "fun f x x = y and f" + times(" _", 12) + " \u00a7_ = 1 in 1");
        fault(MANY, "in (x, x, " + times("1, ", 28) + "\u00a71)");
        // Of those by tokens the one whose token is come to first.
        fault(SYNTAX, "in \u00a7) #");
        fault(SYNTAX, "in 1 \u00a7then \"abc");
        fault(SYNTAX, "in \u00a7) (*");
        fault(TOKEN, "in \u00a7# )");
        fault(TOKEN, "in 1 \u00a7# 12a");
        fault(MANY, "in " + times("(", 40) + "\u00a7( #");
        fault(MANY, "in " + times("(", 40) + "\u00a7(#");
        fault(TOKEN, "in " + times("(", 40) + "\u00a7#(");
        fault(TOKEN, "in " + times("(", 40) + "\u00a7(*");
        fault(TOKEN, "in (" + times("1, ", 30) + "\u00a712a");
        fault(TOKEN, "fun f" + times(" _", 12) + " \u00a712a = 1 in 1");
        fault(SYNTAX, "in " + times("(", 40) + "\u00a7] (");
        fault(TOKEN, "exception E of \u00a7'1");
    }

    /** "3 NAME: no such variable, constructor, exception, type, or type variable of a datatype (.. ) (at it)". */
    private static void names() {
        fault(NAME, "in \u00a7x");
        fault(NAME, "in (1, \u00a7x)");
        fault(NAME, "in \u00a7x y");
        fault(NAME, "in \u00a7x + y");
        fault(NAME, "in print \u00a7x");
        fault(NAME, "val x = \u00a7x in 1");
        fault(NAME, "val x = 1 val y = (x, \u00a7y) in 1");
        fault(NAME, "val rec f = fn x => \u00a7g in 1");
        fault(NAME, "fun f x = \u00a7g x fun g x = 1 in 1");
        good("fun f x = g x and g x = f x in 1");
        good("val rec f = fn x => f x in 1");
        fault(NAME, "in (fn x => x, \u00a7x)");
        fault(NAME, "in (let val x = 1 in x end, \u00a7x)");
        fault(NAME, "in case \u00a7x of x => x");
        fault(NAME, "in case 1 of 1 => \u00a7y | y => 1");
        fault(NAME, "in (1 handle x => 1; \u00a7x)");
        fault(NAME, "fun f x = 1 | f y = \u00a7x in 1");
        fault(NAME, "fun f x = 1 and g y = \u00a7x in 1");
        fault(NAME, "in fn \u00a7C x => 1");
        fault(NAME, "in fn \u00a7f x => f");
        fault(NAME, "val f = 1 in fn \u00a7f x => f");
        fault(NAME, "in fn \u00a7print x => 1");
        fault(NAME, "in 1 handle \u00a7E _ => 1");
        fault(NAME, "in \u00a7A");
        fault(NAME, "val x = \u00a7A datatype t = A in 1");
        fault(NAME, "val x = \u00a7E exception E in 1");
        fault(NAME, "in fn \u00a7ref' x => 1");
        fault(NAME, "in (1 : \u00a7t)");
        fault(NAME, "in fn (x : \u00a7t) => 1");
        fault(NAME, "fun f x : \u00a7t = 1 in 1");
        fault(NAME, "val x : \u00a7t = 1 datatype t = A in 1");
        fault(NAME, "in (1 : int \u00a7t)");
        fault(NAME, "in (1 : (int, bool) \u00a7t)");
        fault(NAME, "in (1 : \u00a7t list)");
        fault(NAME, "in (1 : int * bool -> \u00a7t)");
        fault(NAME, "datatype t = A of \u00a7u in 1");
        fault(NAME, "datatype t = A of \u00a7u datatype u = B in 1");
        good("datatype t = A of u and u = B of t in 1");
        fault(NAME, "exception E of \u00a7t datatype t = A in 1");
        fault(NAME, "datatype t = A of \u00a7'a in 1");
        fault(NAME, "datatype 'a t = A of \u00a7'b in 1");
        fault(NAME, "datatype ('a, 'b) t = A of 'a * 'b * \u00a7'c in 1");
        fault(NAME, "datatype 'a t = A of 'a and 'b u = B of \u00a7'a in 1");
        fault(NAME, "datatype 'a t = A of \u00a7'b and 'b u = B of 'b in 1");
        fault(NAME, "datatype 'a t = A datatype u = B of \u00a7'a in 1");
        fault(NAME, "exception E of \u00a7'a in 1");
        fault(NAME, "exception E of int * \u00a7'a list in 1");
        fault(NAME, "datatype 'a t = A exception E of \u00a7'a in 1");
        fault(NAME, "val x = (nil : 'a list) exception E of \u00a7'a in 1");
        good("exception E of int val x = (nil : 'a list) in (x : 'b list)");
        // Names of variables, constructors and types are apart.
        fault(NAME, "datatype t = A in \u00a7t");
        fault(NAME, "datatype t = A in (1 : \u00a7A)");
        good("datatype t = t of t list in t");
        good("exception t datatype t2 = t2 val list = 1 val int = 2 in (list + int : int)");
        // The first from the left.
        fault(NAME, "in (\u00a7x, y)");
        fault(NAME, "in \u00a7x y z");
        fault(NAME, "in \u00a7x : t");
        fault(NAME, "in (fn (x : \u00a7t) => y, 1)");
        fault(NAME, "datatype t = A of \u00a7u * v in x");
    }

    /** "4 AGAIN: a variable twice in a pattern or a clause's ATPATs, a function's name twice in a fun". */
    private static void againVariables() {
        fault(AGAIN, "in fn (x, \u00a7x) => 1");
        fault(AGAIN, "in fn x :: \u00a7x => 1");
        fault(AGAIN, "in fn [x, y, \u00a7x] => 1");
        fault(AGAIN, "in fn x as \u00a7x => 1");
        fault(AGAIN, "in fn x as (y, \u00a7x) => 1");
        fault(AGAIN, "in fn (y, \u00a7y as 1) => 1");
        fault(AGAIN, "in fn (x, (y, [\u00a7x])) => 1");
        fault(AGAIN, "in case 1 of (x, \u00a7x) => 1");
        fault(AGAIN, "in 1 handle _ => 1 | x as \u00a7x => 1");
        fault(AGAIN, "val (x, \u00a7x) = (1, 2) in 1");
        fault(AGAIN, "in let val (x, \u00a7x) = (1, 2) in 1 end");
        fault(AGAIN, "fun f x \u00a7x = 1 in 1");
        fault(AGAIN, "fun f x (y, \u00a7x) = 1 in 1");
        fault(AGAIN, "fun f (x, y) z [\u00a7y] = 1 in 1");
        fault(AGAIN, "fun f 1 2 = 1 | f x \u00a7x = 2 in 1");
        good("in fn (_, _) => 1");
        good("in fn x => fn x => x");
        good("in fn x => 1 | x => 2");
        good("val x = 1 val x = 2 in x");
        good("fun f x = 1 | f x = 2 in 1");
        good("fun f f = f in f");
        good("fun f x = 1 and g x = 2 in 1");
        good("in (fn x => 1, fn x => 1)");
        good("val x = let val x = 1 in x end in x");
        fault(AGAIN, "fun f x = 1 and \u00a7f x = 2 in 1");
        fault(AGAIN, "fun f x = 1 and g x = 2 and \u00a7f x = 2 in 1");
        fault(AGAIN, "in let fun f x = 1 and \u00a7f x = 2 in 1 end");
        good("fun f x = 1 fun f x = 2 in f");
        // "a constructor's or exception's as a function's name, or ahead of as".
        fault(AGAIN, "fun \u00a7true x = 1 in 1");
        fault(AGAIN, "fun f x = 1 and \u00a7nil x = 1 in 1");
        fault(AGAIN, "fun \u00a7Div x = 1 in 1");
        fault(AGAIN, "datatype t = A of int fun \u00a7A x = 1 in 1");
        fault(AGAIN, "exception E val rec \u00a7E = fn x => x in 1");
        fault(AGAIN, "val rec \u00a7false = fn x => y in 1");
        fault(AGAIN, "in let fun \u00a7Chr x = 1 in 1 end");
        fault(AGAIN, "in fn \u00a7nil as x => 1");
        fault(AGAIN, "in fn (\u00a7Match as x) => 1");
        fault(AGAIN, "datatype t = A of int in fn \u00a7A as x => 1");
        fault(AGAIN, "datatype t = A in fn (x, \u00a7A as x) => 1");
        good("fun f x = 1 datatype t = f in f");
        good("in fn print as x => print");
        good("fun print x = 1 in print");
    }

    /** "a type variable of a datatype, a type's name .., a constructor's or exception's .. (with those known ahead)". */
    private static void againTypes() {
        fault(AGAIN, "datatype ('a, \u00a7'a) t = A in 1");
        fault(AGAIN, "datatype ('a, 'b, 'c, \u00a7'b) t = A in 1");
        fault(AGAIN, "datatype 'a t = A and ('b, \u00a7'b) u = B in 1");
        good("datatype 'a t = A and 'a u = B datatype 'a v = C in 1");
        for (String name : "int bool unit string exn list".split(" ")) {
            fault(AGAIN, "datatype \u00a7" + name + " = A in 1");
            fault(AGAIN, "datatype 'a \u00a7" + name + " = A in 1");
            fault(AGAIN, "datatype t = A and \u00a7" + name + " = B in 1");
        }
        fault(AGAIN, "datatype t = A datatype \u00a7t = B in 1");
        fault(AGAIN, "datatype t = A and \u00a7t = B in 1");
        fault(AGAIN, "datatype t = A and u = B and 'a \u00a7t = C in 1");
        // "of all types of one datatype ahead of their constructors".
        fault(AGAIN, "datatype t = A of v and \u00a7t = B in 1");
        fault(AGAIN, "datatype t = A | A and \u00a7int = B in 1");
        fault(AGAIN, "datatype t = true and u = B and \u00a7u = C in 1");
        fault(NAME, "datatype t = A of \u00a7v and u = A in 1");
        for (String name : "true false nil Match Bind Div Subscript Chr".split(" ")) {
            fault(AGAIN, "datatype t = \u00a7" + name + " in 1");
            fault(AGAIN, "datatype t = A | \u00a7" + name + " of int in 1");
            fault(AGAIN, "exception \u00a7" + name + " in 1");
            fault(AGAIN, "exception \u00a7" + name + " of int in 1");
            fault(AGAIN, "fun \u00a7" + name + " x = 1 in 1");
            fault(AGAIN, "val rec \u00a7" + name + " = fn x => 1 in 1");
            fault(AGAIN, "in fn \u00a7" + name + " as _ => 1");
        }
        fault(AGAIN, "datatype t = A | \u00a7A in 1");
        fault(AGAIN, "datatype t = A of int | \u00a7A in 1");
        fault(AGAIN, "datatype t = A and u = B | \u00a7A in 1");
        fault(AGAIN, "datatype t = A datatype u = \u00a7A in 1");
        fault(AGAIN, "datatype t = A exception \u00a7A in 1");
        fault(AGAIN, "exception E exception \u00a7E in 1");
        fault(AGAIN, "exception E datatype t = \u00a7E of t in 1");
        good("datatype t = t datatype u = u exception int in 1");
    }

    /** "a clause of another NAME, or with more or fewer ATPATs (at its NAME)". */
    private static void againClauses() {
        fault(AGAIN, "fun f x = 1 | \u00a7g x = 2 in 1");
        fault(AGAIN, "fun f x = 1 | f x = 2 | \u00a7g x = 2 in 1");
        fault(AGAIN, "fun f x = 1 | \u00a7f x y = 2 in 1");
        fault(AGAIN, "fun f x y = 1 | \u00a7f x = 2 in 1");
        fault(AGAIN, "fun f x y = 1 | \u00a7g x y = 2 in 1");
        fault(AGAIN, "fun f x = 1 and g x y = 1 | \u00a7g x = 2 in 1");
        fault(AGAIN, "fun f x = 1 and g x y = 1 | \u00a7f x = 2 in 1");
        fault(AGAIN, "fun f x = 1 | \u00a7true x = 2 in 1");
        fault(AGAIN, "in let fun f x = 1 | \u00a7f x y = 1 in 1 end");
        good("fun f x = fun2 x and fun2 x = 1 in f");
        good("fun f x = (let fun g y = 1 | g z = 2 in g x end) | f y = 3 in f");
        fault(AGAIN, "fun f x = (let fun g y = 1 | \u00a7f z = 2 in g x end) | f y = 3 in f");
    }

    /** "6 ARITY: a type's name with more or fewer types ahead of it; a constructor without its argument, or ..". */
    private static void arities() {
        for (String name : "int bool unit string exn".split(" ")) {
            fault(ARITY, "in (1 : int \u00a7" + name + ")");
            fault(ARITY, "in (1 : (int, int) \u00a7" + name + ")");
        }
        fault(ARITY, "in (1 : \u00a7list)");
        fault(ARITY, "in (1 : int * \u00a7list -> int)");
        fault(ARITY, "in (1 : (int, int) \u00a7list)");
        fault(ARITY, "in (1 : (int, int) \u00a7ref)");
        String ahead = "datatype t = N | C of int datatype 'a u = M | D of 'a * int datatype ('a, 'b) v = O ";
        fault(ARITY, ahead + "in (1 : int \u00a7t)");
        fault(ARITY, ahead + "in (1 : \u00a7u)");
        fault(ARITY, ahead + "in (1 : (int, int) \u00a7u)");
        fault(ARITY, ahead + "in (1 : \u00a7v)");
        fault(ARITY, ahead + "in (1 : int \u00a7v)");
        fault(ARITY, ahead + "in (1 : (int, int, int) \u00a7v)");
        fault(ARITY, "datatype 'a t = A of \u00a7t in 1");
        fault(ARITY, "datatype t = A of int \u00a7t in 1");
        fault(ARITY, "datatype t = A of int \u00a7u and u = B in 1");
        fault(ARITY, "exception E of \u00a7list in 1");
        fault(NAME, ahead + "in (1 : (\u00a7x, y) t)");
        fault(ARITY, ahead + "in (1 : (int \u00a7t, y) t)");
        fault(ARITY, ahead + "in fn \u00a7C => 1");
        fault(ARITY, ahead + "in fn (x, \u00a7D) => 1");
        fault(ARITY, ahead + "in fn D (\u00a7C, 1) => 1");
        fault(ARITY, ahead + "fun f \u00a7C x = 1 in 1");
        fault(ARITY, ahead + "val \u00a7C = 1 in 1");
        fault(ARITY, ahead + "in fn \u00a7N x => 1");
        fault(ARITY, ahead + "in fn \u00a7M 1 => 1");
        fault(ARITY, ahead + "in fn \u00a7nil _ => 1");
        fault(ARITY, ahead + "in fn \u00a7true () => 1");
        fault(ARITY, ahead + "in fn \u00a7Div [] => 1");
        fault(ARITY, "exception E of int in 1 handle \u00a7E => 1");
        fault(ARITY, "exception E in 1 handle \u00a7E _ => 1");
        // In an EXP a constructor may stand alone, or be applied whatever it is.
        good(ahead + "in (C, D, N, M)");
        fault(TYPE, ahead + "in N \u00a71");
    }

    /** "Then, by DECS and EXP as they are looked at": the first one from the left, parts first. */
    private static void firstOfAll() {
        fault(NAME, "in (\u00a7x, fn (y, y) => 1)");
        fault(AGAIN, "in (fn (y, \u00a7y) => 1, x)");
        fault(TYPE, "in (1 \u00a7+ true, x)");
        fault(NAME, "in (1 + (true; \u00a7x), 1)");
        fault(NAME, "in true + \u00a7x");
        fault(NAME, "in \u00a7x + true");
        fault(ARITY, "in (fn (x : \u00a7list) => y)");
        fault(TYPE, "in (1 \u00a7: bool : x)");
        fault(NAME, "in (true : \u00a7x)");
        fault(NAME, "fun f x = \u00a7y fun g x x = 1 in 1");
        fault(ARITY, "datatype t = A of \u00a7list | A in x");
        fault(AGAIN, "datatype t = A | \u00a7A of int in x");
        fault(NAME, "exception E of \u00a7x exception E in 1");
        fault(TYPE, "val 1 \u00a7= true in x");
        fault(NAME, "val 1 = true : \u00a7x in x");
        fault(NAME, "val (x : \u00a7y) = z in 1");
    }

    public static void main(String[] args) {
        byTokensFirst();
        names();
        againVariables();
        againTypes();
        againClauses();
        arities();
        firstOfAll();
        finish("faults");
    }
}
