/** Part A of the document: what the tokens are, each edge of them, and the places of their faults. */
public final class TokensTest extends Houses {
    private static final String[] WORDS = ("and andalso as case datatype div do else end exception fn fun handle if in let mod of "
        + "orelse raise rec ref then val while").split(" ");

    /** "A TEXT has bytes 9, 10, 32 .. 126": what each byte is behind an EXP. */
    private static void bytesOfTexts() {
        for (int b = 0; b < 256; b++) {
            char c = (char) b;
            String text = "in 1 " + c;
            if (b == 9 || b == 10 || b == 32) type(text, "int");
            else if (b < 32 || b > 126 || "#$%&./?@\\`{}\"'".indexOf(c) >= 0) fault(TOKEN, "in 1 \u00a7" + c);
            else if (Character.isLetter(c)) fault(NAME, "in 1 \u00a7" + c);
            else if (Character.isDigit(c) || c == '~' || c == '!') fault(TYPE, "in 1 \u00a7" + c);
            else if ("_),;|]".indexOf(c) >= 0) fault(SYNTAX, "in 1 \u00a7" + c);
            else fault(SYNTAX, text + "\u00a7");
        }
        for (char c : new char[] {9, 10, 32}) {
            type(c + "in" + c + "1" + c, "int");
            type("val" + c + "x" + c + "=" + c + "1" + c + "in" + c + "x", "int");
        }
        fault(TOKEN, "\u00a7\u0000in 1");
        fault(TOKEN, "in\u00a7\r1");
    }

    /** "comments (* .. *), also in one another, with whatever bytes in them". */
    private static void comments() {
        for (int b = 0; b < 256; b++) type("in (* " + (char) b + " *) 1", "int");
        type("(**)in(**)1(**)", "int");
        type("in (***) 1", "int");
        type("in (****) 1", "int");
        type("in (* a (* b (* c *) d *) e *) 1", "int");
        type("in (*(**)(**)*) 1", "int");
        type("in (*)*) 1", "int");
        type("in (* \" *) 1", "int");
        value("in \"(* a\"", "\"(* a\"");
        fault(TOKEN, "in 1 \u00a7(*");
        fault(TOKEN, "in 1 \u00a7(*)");
        fault(TOKEN, "in 1 \u00a7(* *");
        fault(TOKEN, "in 1 \u00a7(* (* *)");
        fault(TOKEN, "in 1 (**) \u00a7(*(*)*)");
        fault(TOKEN, "\u00a7(*");
        fault(SYNTAX, "in 1 *\u00a7)");
        fault(SYNTAX, "in 1 (**)*\u00a7)");
        fault(SYNTAX, "in (* *) \u00a7*) 1");
        // A comment ends the token ahead of it.
        fault(TYPE, "in 1(**)\u00a72");
        fault(SYNTAX, "in 1 <(**)\u00a7= 2");
        fault(SYNTAX, "in 1 :(**)\u00a7: nil");
        fault(SYNTAX, "in 1 -(**)\u00a7> 2");
        fault(NAME, "in \u00a7a(**)b");
        fault(SYNTAX, "\u00a7i(**)n 1");
        fault(SYNTAX, "val x = 1(* in *)\u00a7");
    }

    /** "NAMES (a letter, then letters, digits, _, '; at most 31 bytes)". */
    private static void names() {
        type("val aZ09_' = 1 in aZ09_'", "int");
        type("val Az = 1 in Az", "int");
        type("val z = 1 val Z = true in Z", "bool");
        type("val z = 1 val Z = true in z", "int");
        for (char c = 'a'; c <= 'z'; c++) type("val " + c + "' = () in " + c + "'", "unit");
        for (char c = 'A'; c <= 'Z'; c++) type("val " + c + "' = () in " + c + "'", "unit");
        fault(SYNTAX, "val _\u00a7a = 1 in 1");
        fault(SYNTAX, "val 1 \u00a7a = 1 in 1");
        String most = "a" + times("b", 30);
        type("val " + most + " = 1 in " + most, "int");
        fault(NAME, "val " + most + " = 1 in \u00a7" + most.substring(1));
        fault(NAME, "val " + most + " = 1 in \u00a7" + most.substring(1) + "a");
        fault(TOKEN, "val \u00a7" + most + "b = 1 in 1");
        fault(TOKEN, "val \u00a7" + most + "' = 1 in 1");
        fault(TOKEN, "val \u00a7" + most + "_ = 1 in 1");
        fault(TOKEN, "val \u00a7" + most + "7 = 1 in 1");
        fault(TOKEN, "in \u00a7" + times("x", 5000));
        type("val " + most + " = 1 in " + most + "+" + most, "int");
    }

    /** "Words that are no names", and names that only begin like one. */
    private static void words() {
        same("words", WORDS.length, 25);
        for (String word : WORDS) {
            fault(SYNTAX, "in fn (x, \u00a7" + word + ") => 1");
            fault(SYNTAX, "datatype \u00a7" + word + " = A in 1");
            type("in fn (x : '" + word + ") => x", "'a -> 'a");
            type("val " + word + "' = 1 in " + word + "'", "int");
            type("val x" + word + " = 1 in x" + word, "int");
            type("val " + word.toUpperCase() + " = 1 in " + word.toUpperCase(), "int");
            fault(NAME, "in \u00a7" + word.substring(0, word.length() - 1) + "_");
        }
        fault(SYNTAX, "in fn \u00a7ref => 1");
    }

    /** "TYPE VARIABLES (' and a name, or one of the words that are none)". */
    private static void typeVariables() {
        type("in fn (x : 'a, y : 'b, z : 'a) => 1", "'a * 'b * 'a -> int");
        type("in fn (x : 'a', y : 'a) => 1", "'a * 'b -> int");
        type("in fn (x : 'A, y : 'a) => 1", "'a * 'b -> int");
        type("in fn (x : 'a1_'') => x", "'a -> 'a");
        type("in fn (x:'a)=>x", "'a -> 'a");
        type("in fn (x : 'int) => x", "'a -> 'a");
        type("in fn (x : '" + times("a", 31) + ", y : '" + times("a", 30) + "b) => 1", "'a * 'b -> int");
        fault(TOKEN, "in fn (x : \u00a7'" + times("a", 32) + ") => x");
        fault(TOKEN, "in fn (x : \u00a7'1) => x");
        fault(TOKEN, "in fn (x : \u00a7'_a) => x");
        fault(TOKEN, "in fn (x : \u00a7''a) => x");
        fault(TOKEN, "in fn (x : \u00a7') => x");
        fault(TOKEN, "in fn (x : \u00a7' a) => x");
        fault(TOKEN, "in fn (x : \u00a7'");
        fault(SYNTAX, "in \u00a7'a");
    }

    /** "NUMBERS (.. -2^30 to 2^30 - 1; none with a letter, _ or ' right behind)". */
    private static void numbers() {
        value("in 0", "0");
        value("in ~0", "0");
        value("in 1073741823", "1073741823");
        value("in ~1073741824", "~1073741824");
        value("in ~1073741823", "~1073741823");
        value("in 0000000000000000000000001073741823", "1073741823");
        value("in ~0000000000000000000000001073741824", "~1073741824");
        value("in " + times("0", 7000) + "9", "9");
        fault(TOKEN, "in \u00a71073741824");
        fault(TOKEN, "in \u00a7~1073741825");
        fault(TOKEN, "in ~ \u00a71073741824");
        fault(TOKEN, "in \u00a72147483648");
        fault(TOKEN, "in \u00a74294967296");
        fault(TOKEN, "in \u00a74294967297");
        fault(TOKEN, "in \u00a7~4294967297");
        fault(TOKEN, "in \u00a718446744073709551617");
        fault(TOKEN, "in \u00a7" + times("9", 7000));
        fault(TOKEN, "in fn \u00a71073741824 => 1");
        value("in case ~1073741824 of ~1073741824 => 1 | _ => 2", "1");
        for (char c : "azAZ_'".toCharArray()) {
            fault(TOKEN, "in \u00a712" + c);
            fault(TOKEN, "in \u00a7~12" + c);
            fault(TOKEN, "in \u00a70" + c + "1");
        }
        fault(NAME, "in 12 \u00a7a");
        fault(TYPE, "in 12\u00a7\"\"");
        fault(SYNTAX, "in 12 \u00a7_");
        value("in 7 div 2", "3");
        fault(TOKEN, "in \u00a77div 2");
    }

    /**
     * "~ ahead when it touches them and no letter, digit, _, ' or ) (a comment's, too) touches it from
     * the left": where ~ belongs to the number there are two ATPATs, else ~ is a token of its own.
     */
    private static void numbersBelow() {
        for (String left : new String[] {"x", "X", "z", "Z", "x0", "x9", "x'", "x_", "_", "0", "9", "()", "(x)", "_(**)", "(x)(**)"}) {
            fault(SYNTAX, "fun f " + left + "\u00a7~1 = 2 in f");
            good("fun f " + left + " ~1 = 2 in f");
            good("fun f " + left + "\t~1 = 2 in f");
            good("fun f " + left + "\n~1 = 2 in f");
        }
        good("fun f []~1 = 2 in f");
        good("fun f(~1) = 2 in f");
        good("fun f[~1] = 2 in f");
        good("fun f(1,~1) = 2 in f");
        good("fun f(1::~1::_) = 2 in f");
        fault(SYNTAX, "fun f \u00a7~ 1 = 2 in f");
        fault(SYNTAX, "fun f \u00a7~(**)1 = 2 in f");
        fault(SYNTAX, "fun f(**)\u00a7~1 = 2 in f");
        good("fun f(**) ~1 = 2 in f");
        fault(SYNTAX, "fun f \u00a7~~1 = 2 in f");
        // Without a step it is a number, with one the function ~ has been applied.
        steps("in ~1", 0);
        steps("in(~1)", 0);
        steps("in [~1]", 0);
        steps("in (1,~1)", 0);
        steps("in (1;~1)", 0);
        for (String sign : "= <> < > <= >= + - *".split(" ")) steps("in 1" + sign + "~1", 0);
        steps("in 1::~1::[]", 0);
        steps("in case 1 of x=>~1", 0);
        steps("in(**)~1", 1);
        steps("in ~ 1", 1);
        steps("in ~(**)1", 1);
        steps("in ~~1", 1);
        steps("in ~ ~1", 1);
        steps("in ~(~1)", 1);
        steps("in !(ref ~1)", 2);
        value("in ~~1", "1");
        value("in (1-~1, 3*~2, 1 - ~1)", "(2, ~6, 2)");
        fault(TYPE, "in 1\u00a7~1");
        fault(TYPE, "in 1 \u00a7~1");
        fault(TYPE, "in \"\"\u00a7~1");
        fault(TYPE, "in []\u00a7~1");
        fault(TYPE, "in !\u00a7~1");
        steps("in~1", 1);
    }

    /** "STRINGS (bytes between two ", 9 and 10 too": which bytes, and what each means. */
    private static void bytesOfStrings() {
        for (int b = 0; b < 256; b++) {
            char c = (char) b;
            if (c == '"') fault(TOKEN, "in \"\"\u00a7\"");
            else if (c == '\\') fault(TOKEN, "in \u00a7\"\\\"");
            else if (b == 9) value("in \"" + c + "\"", "\"\\t\"");
            else if (b == 10) value("in \"" + c + "\"", "\"\\n\"");
            else if (b < 32 || b > 126) fault(TOKEN, "in \u00a7\"" + c + "\"");
            else value("in \"" + c + "\"", "\"" + c + "\"");
        }
    }

    /** "with \n \t \\ \" and \ with three digits up to 255". */
    private static void escapes() {
        for (int b = 0; b < 256; b++) {
            char c = (char) b;
            if (c == '"') fault(TOKEN, "in \u00a7\"\\\"");
            else if ("nt\\".indexOf(c) >= 0) value("in \"\\" + c + "\"", "\"\\" + c + "\"");
            else fault(TOKEN, "in \u00a7\"\\" + c + "\"");
        }
        value("in sub (\"\\n\", 0)", "10");
        value("in sub (\"\\t\", 0)", "9");
        value("in sub (\"\\\\\", 0)", "92");
        value("in sub (\"\\\"\", 0)", "34");
        for (int code = 0; code < 1000; code++) {
            if (code > 260 && code % 37 != 0) continue;
            String digits = "" + (1000 + code);
            String text = "\"\\" + digits.substring(1) + "\"";
            if (code <= 255) value("in sub (" + text + ", 0)", "" + code);
            else fault(TOKEN, "in \u00a7" + text);
        }
        value("in \"\\1234\"", "\"{4\"");
        value("in size \"\\0000\"", "2");
        fault(TOKEN, "in \u00a7\"\\12\"");
        fault(TOKEN, "in \u00a7\"\\1\"");
        fault(TOKEN, "in \u00a7\"\\12a\"");
        fault(TOKEN, "in \u00a7\"\\1a2\"");
        fault(TOKEN, "in \u00a7\"\\ 12\"");
        fault(TOKEN, "in \u00a7\"\\~12\"");
        fault(TOKEN, "in \u00a7\"");
        fault(TOKEN, "in \u00a7\"\\");
        fault(TOKEN, "in \u00a7\"\\1");
        fault(TOKEN, "in \u00a7\"\\12");
        fault(TOKEN, "in \u00a7\"\\123");
        fault(TOKEN, "in \u00a7\"abc\n in 1");
    }

    /** "at most 200 bytes that they mean". */
    private static void longStrings() {
        value("in size \"" + times("a", 200) + "\"", "200");
        value("in size \"" + times("\\n", 200) + "\"", "200");
        value("in size \"" + times("\\\"", 200) + "\"", "200");
        value("in size \"" + times("\\255", 200) + "\"", "200");
        value("in size \"" + times("\\000", 199) + "\n\"", "200");
        fault(TOKEN, "in \u00a7\"" + times("a", 201) + "\"");
        fault(TOKEN, "in \u00a7\"" + times("a", 200) + "\\n\"");
        fault(TOKEN, "in \u00a7\"" + times("\\255", 201) + "\"");
        fault(TOKEN, "in \u00a7\"" + times("\\255", 200) + "a\"");
        fault(TOKEN, "in \u00a7\"" + times("a", 6000) + "\"");
        value("in \"\"", "\"\"");
        value("in size (\"" + times("a", 200) + "\" ^ \"" + times("b", 200) + "\")", "400");
    }

    /** "Tokens, the longest each": the place of what can't stand tells where the one ahead of it ended. */
    private static void longest() {
        for (String sign : "=> -> := :: <= >= <>".split(" ")) {
            boolean stands = sign.equals(":=") || sign.equals("::") || sign.startsWith("<") || sign.startsWith(">");
            if (!stands) fault(SYNTAX, "in 1 \u00a7" + sign + " 2");
            else fault(SYNTAX, "in 1 " + sign + "\u00a7");
        }
        fault(SYNTAX, "in 1 <=\u00a7> 2");
        fault(SYNTAX, "in 1 <>\u00a7= 2");
        fault(SYNTAX, "in 1 <\u00a7< 2");
        fault(SYNTAX, "in 1 >=\u00a7= 2");
        fault(SYNTAX, "in 1 >\u00a7> 2");
        fault(SYNTAX, "in 1 =\u00a7= 2");
        fault(SYNTAX, "in 1 =\u00a7< 2");
        fault(SYNTAX, "in 1 = \u00a7> 2");
        fault(SYNTAX, "in 1 ::\u00a7: nil");
        fault(SYNTAX, "in 1 ::\u00a7= nil");
        fault(SYNTAX, "in 1 :\u00a7<= nil");
        fault(SYNTAX, "in 1 :=\u00a7> nil");
        fault(SYNTAX, "in 1 :=\u00a7= nil");
        fault(SYNTAX, "in 1 : \u00a7= nil");
        fault(SYNTAX, "in 1 - \u00a7> 2");
        fault(SYNTAX, "in 1 -\u00a7- 2");
        fault(SYNTAX, "in 1 <\u00a7-> 2");
        fault(SYNTAX, "in fn x \u00a7= > 1");
        type("in fn x=>fn(y:int->int)=>y x", "int -> (int -> int) -> int");
        value("in (1<=2,1>=2,1<>2,1<2,1>2,1=2)", "(true, false, true, true, false, false)");
        value("val r=ref 1 in(r:=2;1:: !r::[])", "[1, 2]");
    }

    /** "Places are bytes of the text, from 0 on." */
    private static void places() {
        fault(SYNTAX, "\u00a71");
        fault(TOKEN, "\u00a7#");
        fault(NAME, "in\n\n\t \u00a7x");
        fault(NAME, "(* \u00ff *)in \u00a7x");
        fault(NAME, "in " + times(" ", 8188) + "\u00a7x");
        fault(TOKEN, "in 1" + times(" ", 8187) + "\u00a7#");
        fault(SYNTAX, "in 1 +" + times(" ", 8186) + "\u00a7");
        fault(SYNTAX, "\u00a7");
        fault(SYNTAX, "   \u00a7");
        fault(SYNTAX, "(* *)\u00a7");
        fault(SYNTAX, "in\u00a7");
        fault(SYNTAX, "val\u00a7");
        type("in " + times(" ", 8188) + "1", "int");
    }

    public static void main(String[] args) {
        bytesOfTexts();
        comments();
        names();
        words();
        typeVariables();
        numbers();
        numbersBelow();
        bytesOfStrings();
        escapes();
        longStrings();
        longest();
        places();
        finish("tokens");
    }
}
