/**
 * A new object of the class, its calls counted: what it answers behind its 512th call is free, so a test
 * that rests on such an answer is itself at fault.
 */
final class Desk implements Calls {
    static final int MOST_CALLS = 512;

    private final CelSheets sheets = new CelSheets();
    private int calls = 0;

    /** A desk with this REEL. */
    static Desk of(String reel) {
        Desk x = new Desk();
        x.more(reel);
        if (x.reel() < 0) {
            throw new IllegalStateException("no reel: " + reel);
        }
        return x;
    }

    int calls() {
        return calls;
    }

    private CelSheets used() {
        calls++;
        if (calls > MOST_CALLS) {
            throw new IllegalStateException("a test uses an object for more than " + MOST_CALLS + " calls");
        }
        return sheets;
    }

    @Override public int write(int letter) {
        return used().write(letter);
    }

    @Override public int wipe() {
        return used().wipe();
    }

    @Override public int fault() {
        return used().fault();
    }

    @Override public int reel() {
        return used().reel();
    }

    @Override public int drawing(int drawing, int what) {
        return used().drawing(drawing, what);
    }

    @Override public int level(int level, int what) {
        return used().level(level, what);
    }

    @Override public int where(int level, int f) {
        return used().where(level, f);
    }

    @Override public int redraw(int drawing, int x, int width) {
        return used().redraw(drawing, x, width);
    }

    @Override public int delay(int level, int v) {
        return used().delay(level, v);
    }

    @Override public int pan(int level, int start, int by, int every) {
        return used().pan(level, start, by, every);
    }

    @Override public int swap(int f, int order) {
        return used().swap(f, order);
    }

    @Override public int back() {
        return used().back();
    }

    @Override public int undo() {
        return used().undo();
    }

    @Override public int exposed(int level, int f) {
        return used().exposed(level, f);
    }

    @Override public int order(int f) {
        return used().order(f);
    }

    @Override public int look(int f, int c) {
        return used().look(f, c);
    }

    @Override public int ask(int what) {
        return used().ask(what);
    }

    @Override public int judge(int n, long row) {
        return used().judge(n, row);
    }

    @Override public int see(int f, int c, int v) {
        return used().see(f, c, v);
    }

    @Override public int unsee() {
        return used().unsee();
    }

    @Override public int which() {
        return used().which();
    }

    @Override public int share(int level, boolean upper) {
        return used().share(level, upper);
    }

    @Override public int lost(int f, int c, int x, boolean upper) {
        return used().lost(f, c, x, upper);
    }

    @Override public long seed(long v) {
        return used().seed(v);
    }

    @Override public int looks(int m) {
        return used().looks(m);
    }

    @Override public int keep(int slot) {
        return used().keep(slot);
    }

    @Override public int again(int slot) {
        return used().again(slot);
    }

    @Override public int count(int what) {
        return used().count(what);
    }
}
