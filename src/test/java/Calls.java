/** The calls of the document, so that a run can be told to the class and to the model alike. */
interface Calls {
    int write(int letter);

    int wipe();

    int fault();

    int reel();

    int drawing(int drawing, int what);

    int level(int level, int what);

    int where(int level, int f);

    int redraw(int drawing, int x, int width);

    int delay(int level, int v);

    int pan(int level, int start, int by, int every);

    int swap(int f, int order);

    int back();

    int undo();

    int exposed(int level, int f);

    int order(int f);

    int look(int f, int c);

    int ask(int what);

    int judge(int n, long row);

    int see(int f, int c, int v);

    int unsee();

    int which();

    int share(int level, boolean upper);

    int lost(int f, int c, int x, boolean upper);

    long seed(long v);

    int looks(int m);

    int keep(int slot);

    int again(int slot);

    int count(int what);

    /** THE TEXT is this one alone. */
    default void tell(String text) {
        wipe();
        more(text);
    }

    /** This comes behind THE TEXT. */
    default void more(String text) {
        for (char c : text.toCharArray()) {
            write(c);
        }
    }
}
