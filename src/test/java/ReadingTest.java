/**
 * Texts made from a seed, programs and others, read by the house and by a reading of parts A to C that was
 * written anew from the document: fault and place, or the type, must be the same. What is a program is run
 * by all three ways of the house and by the model.
 */
public final class ReadingTest extends Houses {
    private static final int[] INPUT = {5, -3, 1 << 30, 0};
    private static final int RUNS = 2;

    private static final int[] faults = new int[8];
    private static final int[] ends = new int[5];

    private static void one(long seed) {
        String text = Texts.of(seed);
        if (text.length() > 8192) return;
        Node program = null;
        String due;
        try {
            program = Grammar.program(text);
            due = Typing.of(program);
            faults[0]++;
        } catch (Fault fault) {
            faults[fault.what]++;
            due = fault.what + " at " + fault.place;
        }
        boolean runs = House.feeds(text) < 220;
        House house = houseFor(text, runs ? 270 : 80);
        boolean is = house.read(text);
        if (is && !Character.isDigit(due.charAt(0))) {
            told("type of\n" + text, house, 0, due.length() <= 1900 ? due : due.substring(0, 1900) + "..", 70);
            if (runs) ran(text, house, new Building(program), seed);
        } else {
            same("fault of\n" + text, is ? "none" : faultOf(house), due);
        }
    }

    private static void ran(String text, House house, Building program, long seed) {
        if (!program.canRun()) return;
        house.take();
        for (int n : INPUT) house.give(n);
        for (int k = 0; k < RUNS; k++) {
            int steps = k == 0 ? STEPS_MOST : (int) (1 + seed % 50);
            int heap = k == 0 ? (int) (20 + seed % 97) : HEAP_MOST;
            String[] due = Model.comesTo(program.decs, program.exp, steps, heap, INPUT);
            ends[due[0].charAt(0) - '0']++;
            for (int how : hows()) asByModel(text, house, how, steps, heap, due);
        }
    }

    public static void main(String[] args) throws InterruptedException {
        int texts = args.length > 0 ? Integer.parseInt(args[0]) : 6000;
        long first = args.length > 1 ? Long.parseLong(args[1]) : 1;
        Thread thread = new Thread(null, () -> {
            for (int k = 0; k < texts; k++) one(first + k);
        }, "reading", 1L << 30);
        thread.start();
        thread.join();
        System.out.println("programs and faults 1 to 7: " + java.util.Arrays.toString(faults) + ", ends " + java.util.Arrays.toString(ends));
        finish("texts and their reading");
    }
}
