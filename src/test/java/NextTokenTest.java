import java.util.ArrayList;
import java.util.List;

/**
 * Part B of the document: beginnings of programs, made token by token from a seed; at some of them each token
 * that there is comes next. Which of them can stand there must be as the grammar of ReadingTest has it.
 */
public final class NextTokenTest extends Houses {
    private static final int LONGEST = 60;
    private static final int TRIES = 6;
    private static final String[] BEGINS = {"", "", "in ", "in ", "fun f ", "datatype 'a t = C of int "};
    private static final String[] LIKELY = {"x", "y", "f", "C", "1", "(", ")", ")", "]", "end", "in", "then", "else", "of", "=>", "=", ";", "do", "int",
        "'a", ":", "|", "handle", "fn", "let", "val", "fun"};

    private final List<String> tokens = new ArrayList<>();
    private long seed;
    private int whole;

    private NextTokenTest(long seed) {
        this.seed = seed;
        tokens.addAll(Tokens.WORDS);
        tokens.addAll(Tokens.SIGNS);
        tokens.addAll(List.of("x", "y", "f", "C", "int", "'a", "1", "\"s\""));
    }

    private int below(int n) {
        seed = seed * 6364136223846793005L + 1442695040888963407L;
        return (int) ((seed >>> 33) % n);
    }

    private String one(String[] of) {
        return of[below(of.length)];
    }

    /** The first fault as it is due, or "none". */
    private static String due(String text) {
        try {
            Typing.of(Grammar.program(text));
            return "none";
        } catch (Fault fault) {
            return fault.what + " at " + fault.place;
        }
    }

    private void walk() {
        String text = one(BEGINS);
        for (int k = 0; k < LONGEST; k++) {
            List<String> can = new ArrayList<>();
            boolean looks = k % 8 == below(8);
            for (String token : tokens) {
                String due = due(text + token);
                if (!due.equals(SYNTAX + " at " + text.length())) can.add(token);
                if (!looks) continue;
                House house = houseFor(text + token, 4);
                same("fault of " + text + token, house.read(text + token) ? "none" : faultOf(house), due);
            }
            if (can.isEmpty()) return;
            text += next(can) + " ";
            if (due(text).equals("none")) whole++;
        }
    }

    private String next(List<String> can) {
        for (int n = below(4) == 0 ? TRIES : 0; n < TRIES; n++) {
            String token = one(LIKELY);
            if (can.contains(token)) return token;
        }
        return can.get(below(can.size()));
    }

    public static void main(String[] args) {
        int walks = args.length > 0 ? Integer.parseInt(args[0]) : 80;
        NextTokenTest test = new NextTokenTest(args.length > 1 ? Long.parseLong(args[1]) : 1);
        for (int n = 0; n < walks; n++) test.walk();
        System.out.println(test.whole + " whole programs on the way");
        finish("tokens that come next");
    }
}
