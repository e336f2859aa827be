import java.nio.charset.StandardCharsets;

/** A LeanHouse whose calls are counted: nothing is promised behind the 512th, so no test may come there. */
final class House {
    static final int CALLS_MOST = 512;

    private final LeanHouse house = new LeanHouse();
    private int calls = 0;

    private LeanHouse called() {
        calls++;
        if (calls > CALLS_MOST) throw new AssertionError("the test calls one object more than 512 times");
        return house;
    }

    int callsLeft() {
        return CALLS_MOST - calls;
    }

    int feed(int a, int b, int c, int d, int e) {
        return called().feed(a, b, c, d, e);
    }

    int end(int n) {
        return called().end(n);
    }

    boolean read() {
        return called().read();
    }

    int fault(int what) {
        return called().fault(what);
    }

    int give(int number) {
        return called().give(number);
    }

    int take() {
        return called().take();
    }

    int run(int how, int steps, int heap) {
        return called().run(how, steps, heap);
    }

    int seen(int what) {
        return called().seen(what);
    }

    int byteAt(int k) {
        return called().byteAt(k);
    }

    int tell(int what) {
        return called().tell(what);
    }

    int resultAt(int k) {
        return called().resultAt(k);
    }

    int count(int what) {
        return called().count(what);
    }

    /** How many calls it takes to feed a text. */
    static int feeds(String text) {
        return (text.length() + 19) / 20 + 2;
    }

    /** The bytes of a text, which are 0 to 255, twenty a call; the last call's padding goes again. */
    void feed(String text) {
        byte[] bytes = text.getBytes(StandardCharsets.ISO_8859_1);
        int from = 0;
        int padded = (bytes.length + 19) / 20 * 20;
        while (from < padded && from + 20 <= 8192) {
            feedFrom(bytes, from);
            from += 20;
        }
        if (from >= bytes.length) {
            if (from > bytes.length) end(from - bytes.length);
            return;
        }
        // Behind 8,180 bytes there is room for twelve more: eight go again, and come once more.
        end(8);
        feedFrom(bytes, from - 8);
        if (bytes.length < 8192) end(8192 - bytes.length);
    }

    private void feedFrom(byte[] bytes, int from) {
        int[] row = new int[5];
        for (int n = 0; n < 20; n++) row[n / 4] = row[n / 4] << 8 | (from + n < bytes.length ? bytes[from + n] & 255 : 0);
        feed(row[0], row[1], row[2], row[3], row[4]);
    }

    boolean read(String text) {
        feed(text);
        return read();
    }
}
