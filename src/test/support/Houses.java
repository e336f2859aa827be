/**
 * What the tests share: answers held against what is due. In a text that has a fault the sign \u00a7
 * marks the place of the fault; it is taken out before the text is fed.
 */
class Houses {
    static final String STATE = "IllegalStateException";
    static final String ARGUMENT = "IllegalArgumentException";
    static final String INDEX = "IndexOutOfBoundsException";

    static final int TOKEN = 1;
    static final int SYNTAX = 2;
    static final int NAME = 3;
    static final int AGAIN = 4;
    static final int TYPE = 5;
    static final int ARITY = 6;
    static final int MANY = 7;

    static final int STEPS_MOST = 20000;
    static final int HEAP_MOST = 4096;

    private static House used = new House();
    private static int turn;
    private static int wrong;
    private static int checked;

    interface Call {
        long go();
    }

    static void same(String what, Object got, Object due) {
        checked++;
        if (got.equals(due)) return;
        wrong++;
        System.out.println(what + ": answered " + got + ", due is " + due);
    }

    /** Tells how many answers were wrong; the program ends by 1 if there was one. */
    static void finish(String about) {
        System.out.println(checked + " answers about " + about + " looked at, " + wrong + " wrong");
        if (wrong != 0 || checked == 0) System.exit(1);
    }

    /** What the call answers, or the name of the exception that it throws. */
    static String answer(Call call) {
        try {
            return "" + call.go();
        } catch (RuntimeException e) {
            return e.getClass().getSimpleName();
        }
    }

    static String times(String s, int n) {
        return s.repeat(n);
    }

    static String brief(String text) {
        return text.length() <= 200 ? text : text.substring(0, 90) + " .. " + text.substring(text.length() - 90);
    }

    /** A house for a text and so many calls behind it: the one used before, while it has calls left. */
    static House houseFor(String text, int calls) {
        if (used.callsLeft() < House.feeds(text) + calls) used = new House();
        return used;
    }

    static String faultOf(House house) {
        return house.fault(0) + " at " + house.fault(1);
    }

    /** A text with a fault: the place is where the mark stands, which is taken out. */
    static void fault(int what, String marked) {
        int place = marked.indexOf('\u00a7');
        String text = marked.substring(0, place) + marked.substring(place + 1);
        House house = houseFor(text, 8);
        same("read of " + brief(text), house.read(text), false);
        same("fault of " + brief(text), faultOf(house), what + " at " + place);
        same("tell of " + brief(text), answer(() -> house.tell(0)), STATE);
        same("run of " + brief(text), answer(() -> house.run(0, 1, 16)), STATE);
    }

    /** A house that has read the text, and has so many calls left; null, and told, if it is no program. */
    static House program(String text, int calls) {
        House house = houseFor(text, calls + 4);
        boolean is = house.read(text);
        same("fault of " + brief(text), (is ? "a program, " : "none, ") + faultOf(house), "a program, 0 at -1");
        return is ? house : null;
    }

    /** The text is a program, whatever its type. */
    static void good(String text) {
        program(text, 0);
    }

    /** Which byte is looked at as the k-th of so many: the first ones, some of the middle, the last ones. */
    static int pick(int k, int picks, int size) {
        int third = picks / 3;
        if (k < third) return k;
        if (k >= picks - third) return size - picks + k;
        int middle = picks - 2 * third;
        return third + (k - third) * (size - 2 * third) / middle;
    }

    /** What is told, by as many of its bytes (the first and the last ones) as the calls allow. */
    static void told(String about, House house, int what, String due, int calls) {
        String size = answer(() -> house.tell(what));
        if (!Character.isDigit(size.charAt(0)) || !Character.isDigit(due.charAt(0)) && due.endsWith("Exception")) {
            same(about, size, due);
            return;
        }
        int bytes = Integer.parseInt(size);
        int picks = Math.min(bytes, calls - 1);
        StringBuilder got = new StringBuilder();
        StringBuilder wanted = new StringBuilder();
        for (int k = 0; k < picks; k++) {
            int at = pick(k, picks, bytes);
            got.append((char) house.resultAt(at));
            wanted.append(at < due.length() ? due.charAt(at) : '?');
        }
        same(about, bytes + " bytes " + got, due.length() + " bytes " + (bytes == due.length() ? wanted : due));
    }

    static void type(String text, String type) {
        int calls = Math.min(type.length() + 2, 90);
        House house = program(text, calls);
        if (house != null) told("type of " + brief(text), house, 0, type, calls);
    }

    /**
     * All three ways to run, each time another one first: it must not matter what another one, or
     * another program, has left.
     */
    static int[] hows() {
        turn++;
        return new int[] {turn % 3, (turn + 1) % 3, (turn + 2) % 3};
    }

    /** How it ends by all three ways to run, and the value (or the exception). */
    private static void comesTo(int end, String text, String value) {
        int calls = Math.min(value.length() + 4, 29);
        House house = program(text, 3 * calls);
        if (house == null) return;
        for (int how : hows()) {
            same("end, how " + how + ", of " + brief(text), house.run(how, STEPS_MOST, HEAP_MOST), end);
            told("value, how " + how + ", of " + brief(text), house, 1, value, calls - 2);
        }
    }

    static void value(String text, String value) {
        comesTo(0, text, value);
    }

    /** An exception that nothing handles. */
    static void raised(String text, String exception) {
        comesTo(1, text, exception);
    }

    static void output(String about, House house, String due, int calls) {
        int kept = Math.min(2000, house.seen(4));
        int picks = Math.min(kept, calls - 1);
        StringBuilder got = new StringBuilder();
        StringBuilder wanted = new StringBuilder();
        for (int k = 0; k < picks; k++) {
            int at = pick(k, picks, kept);
            got.append((char) house.byteAt(at));
            wanted.append(at < due.length() ? due.charAt(at) : '?');
        }
        same(about, kept + " bytes " + got, due.length() + " bytes " + (kept == due.length() ? wanted : due));
    }

    /** What is put out by all three ways to run. */
    static void puts(String text, String due) {
        int calls = Math.min(due.length() + 3, 29);
        House house = program(text, 3 * calls);
        if (house == null) return;
        for (int how : hows()) {
            house.run(how, STEPS_MOST, HEAP_MOST);
            output("output, how " + how + ", of " + brief(text), house, due, calls - 1);
        }
    }

    /** One number of those that are seen of a run that has all the steps and all the heap. */
    static void seen(int what, String text, int due) {
        House house = program(text, 6);
        if (house == null) return;
        for (int how : hows()) {
            int end = house.run(how, STEPS_MOST, HEAP_MOST);
            same("seen " + what + ", how " + how + ", of " + brief(text), (end > 1 ? "end " + end + ", " : "") + house.seen(what), "" + due);
        }
    }

    static void steps(String text, int due) {
        seen(0, text, due);
    }

    static void words(String text, int due) {
        seen(2, text, due);
    }

    static void pile(String text, int due) {
        seen(3, text, due);
    }

    /** How it ends, then steps, collections, words and pile, with so many steps and so much heap. */
    static void ends(String text, int steps, int heap, String due) {
        House house = program(text, 15);
        if (house == null) return;
        for (int how : hows()) {
            StringBuilder s = new StringBuilder();
            s.append(house.run(how, steps, heap));
            for (int k = 0; k < 4; k++) s.append(" ").append(house.seen(k));
            same("end, how " + how + ", of " + brief(text), s.toString(), due);
        }
    }

    /** A run, by one of the ways, of a program that was read, held against what is due by the model: 28 calls at most. */
    static void asByModel(String text, House house, int how, int steps, int heap, String[] due) {
        String about = "how " + how + ", steps " + steps + ", heap " + heap + " of\n" + text + "\n";
        StringBuilder s = new StringBuilder();
        int end = house.run(how, steps, heap);
        s.append(end);
        for (int k = 0; k < 5; k++) s.append(' ').append(house.seen(k));
        same(about, s.toString(), due[0]);
        output(about, house, due[1], 8);
        if (end < 2) told(about, house, 1, due[2], 12);
    }
}
