/** An object of the works whose calls are counted, as the document promises nothing behind the 512th. */
final class Counted {
    static final int CALLS = 512;
    private final PatternWorks it = new PatternWorks();
    private int calls = 0;

    /** How many calls the object is still good for. */
    int left() {
        return CALLS - calls;
    }

    private PatternWorks it() {
        calls++;
        if (calls > CALLS) {
            throw new IllegalStateException("a test uses an object for more than " + CALLS + " calls");
        }
        return it;
    }

    void feed(int a, int b, int c, int d, int e) {
        it().feed(a, b, c, d, e);
    }

    int end(int n) {
        return it().end(n);
    }

    int compile(int slot, int flags) {
        return it().compile(slot, flags);
    }

    int fault(int what) {
        return it().fault(what);
    }

    int about(int slot, int what) {
        return it().about(slot, what);
    }

    int name(int slot, int k, int i) {
        return it().name(slot, k, i);
    }

    int subject() {
        return it().subject();
    }

    int match(int slot, int how, int machine, int from) {
        return it().match(slot, how, machine, from);
    }

    int group(int k, int which) {
        return it().group(k, which);
    }

    int all(int slot) {
        return it().all(slot);
    }

    int found(int i, int which) {
        return it().found(i, which);
    }

    int replace(int slot) {
        return it().replace(slot);
    }

    int split(int slot) {
        return it().split(slot);
    }

    int piece(int i, int which) {
        return it().piece(i, which);
    }

    int which(int slots, boolean whole) {
        return it().which(slots, whole);
    }

    int quote() {
        return it().quote();
    }

    int output(int i) {
        return it().output(i);
    }

    void keep(int states) {
        it().keep(states);
    }

    int over() {
        return it().over();
    }
}
