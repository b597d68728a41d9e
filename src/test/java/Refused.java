/** What ends a statement of a PlainHouse: a FAULT with its place, or an ERROR. */
final class Refused extends RuntimeException {
    private static final long serialVersionUID = 1L;

    final int what;
    final int place;

    Refused(int what, int place) {
        this.what = what;
        this.place = place;
    }

    static Refused error(int error) {
        return new Refused(error, 0);
    }
}
