import java.util.ArrayList;
import java.util.List;
import java.util.regex.Matcher;
import java.util.regex.Pattern;

/** Part A of the document once more: what tokens a text has, up to the first one that is at fault. */
final class Tokens {
    static final String NAME = "NAME", VARIABLE = "TYPE VARIABLE", NUMBER = "NUMBER", STRING = "STRING", END = "END", BAD = "BAD", MANY = "MANY";

    static final List<String> WORDS = List.of("and", "andalso", "as", "case", "datatype", "div", "do", "else", "end", "exception", "fn", "fun",
        "handle", "if", "in", "let", "mod", "of", "orelse", "raise", "rec", "ref", "then", "val", "while");
    static final List<String> SIGNS = List.of("=>", "->", "::", ":=", "<=", "<>", ">=", "_", "(", ")", "[", "]", ",", ";", ":", "|", "=", "*",
        "+", "-", "^", "<", ">", "!", "~");

    private static final Pattern NAMES = Pattern.compile("'?[A-Za-z][A-Za-z0-9_']*");
    private static final Pattern NUMBERS = Pattern.compile("~?[0-9]+");
    private static final Pattern STRINGS = Pattern.compile("\"([\\t\\n !#-\\[\\]-~]|\\\\[nt\\\\\"]|\\\\[0-9]{3})*\"");
    private static final Pattern MEANT = Pattern.compile("\\\\[0-9]{3}|\\\\.|[^\\\\]", Pattern.DOTALL);
    private static final Pattern TOUCHES = Pattern.compile("[A-Za-z0-9_')]");
    private static final int TOKENS_MOST = 2000;

    /** A token's kind (of words and signs what they are), its bytes, and where it begins. */
    record Token(String kind, String text, int place) {
    }

    private final String text;
    private int here;

    private Tokens(String text) {
        this.text = text;
    }

    static List<Token> of(String text) {
        Tokens tokens = new Tokens(text);
        List<Token> all = new ArrayList<>();
        while (true) {
            Token token = tokens.next();
            boolean tooMany = all.size() == TOKENS_MOST && token.kind != END && token.kind != BAD;
            all.add(tooMany ? new Token(MANY, "", token.place) : token);
            if (tooMany || token.kind == END || token.kind == BAD) return all;
        }
    }

    private Token next() {
        int comment = blanks();
        if (comment >= 0) return new Token(BAD, "", comment);
        if (here == text.length()) return new Token(END, "", here);
        Token token = at(here);
        here += token.text.length();
        return token;
    }

    /** Goes over blanks and comments: where a comment begins that has no end, or -1. */
    private int blanks() {
        while (here < text.length()) {
            if (text.startsWith("(*", here)) {
                int begin = here;
                int open = 0;
                do {
                    boolean opens = text.startsWith("(*", here);
                    boolean closes = text.startsWith("*)", here);
                    open += opens ? 1 : closes ? -1 : 0;
                    here += opens || closes ? 2 : 1;
                } while (open > 0 && here < text.length());
                if (open > 0) return begin;
            } else if ("\t\n ".indexOf(text.charAt(here)) >= 0) {
                here++;
            } else {
                return -1;
            }
        }
        return -1;
    }

    private Token at(int place) {
        String name = found(NAMES);
        if (name != null) {
            boolean variable = name.startsWith("'");
            if (name.length() > (variable ? 32 : 31)) return new Token(BAD, "", place);
            return new Token(variable ? VARIABLE : WORDS.contains(name) ? name : NAME, name, place);
        }
        String number = found(NUMBERS);
        if (number != null && (!number.startsWith("~") || place == 0 || !touches(place - 1))) {
            int behind = place + number.length();
            boolean good = behind == text.length() || !touches(behind) || text.charAt(behind) == ')';
            return good && inRange(number) ? new Token(NUMBER, number, place) : new Token(BAD, "", place);
        }
        String string = found(STRINGS);
        if (string != null) return isString(string) ? new Token(STRING, string, place) : new Token(BAD, "", place);
        for (String sign : SIGNS) {
            if (text.startsWith(sign, place)) return new Token(sign, sign, place);
        }
        return new Token(BAD, "", place);
    }

    private String found(Pattern pattern) {
        Matcher matcher = pattern.matcher(text).region(here, text.length());
        return matcher.lookingAt() ? matcher.group() : null;
    }

    private boolean touches(int k) {
        return TOUCHES.matcher(text.substring(k, k + 1)).matches();
    }

    private static boolean inRange(String number) {
        String figures = number.replace("~", "").replaceFirst("^0+", "");
        if (figures.length() > 10) return false;
        long n = figures.isEmpty() ? 0 : Long.parseLong(figures);
        return n < 1L << 30 || n == 1L << 30 && number.startsWith("~");
    }

    private static boolean isString(String string) {
        Matcher meant = MEANT.matcher(string.substring(1, string.length() - 1));
        int bytes = 0;
        while (meant.find()) {
            if (meant.group().length() == 4 && Integer.parseInt(meant.group().substring(1)) > 255) return false;
            bytes++;
        }
        return bytes <= 200;
    }
}
