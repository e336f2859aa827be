/** What is wrong with a text, and where. */
final class Fault extends RuntimeException {
    final int what;
    final int place;

    Fault(int what, int place) {
        super(null, null, false, false);
        this.what = what;
        this.place = place;
    }
}
