/**
 * All that can be found out about an object, in pieces, each for an object of its own: a piece may change
 * what it asks, and no object may be used for more than 512 calls.
 */
final class View {
    static final int PIECES = 12;

    private final Calls x;
    private final StringBuilder told = new StringBuilder();

    private View(Calls x) {
        this.x = x;
    }

    static String piece(Calls x, int piece) {
        View view = new View(x);
        switch (piece) {
            case 0: view.all(); break;
            case 1: view.where(); break;
            case 2: view.exposed(); break;
            case 3: view.orders(); break;
            case 4: view.looks(0, 24); break;
            case 5: view.looks(24, 48); break;
            case 6: view.undoneDelays(); break;
            case 7: view.undonePans(); break;
            case 8: view.undoneDrawings(); break;
            case 9: view.kept(0); break;
            case 10: view.kept(1); break;
            default: view.textAndSeen(); break;
        }
        return view.told.toString();
    }

    private void put(long answer) {
        told.append(answer).append(' ');
    }

    private void all() {
        for (int what = 0; what < 6; what++) put(x.count(what));
        drawings();
        for (int level = 0; level < 4; level++) {
            for (int what = 0; what < 4; what++) put(x.level(level, what));
            put(x.share(level, true));
            put(x.share(level, false));
        }
        put(x.fault());
        put(x.which());
        put(x.ask(0));
        put(x.ask(1));
        put(x.looks(40));
        put(x.seed(0));
    }

    private void drawings() {
        for (int drawing = 0; drawing < 6; drawing++) {
            for (int what = 0; what < 3; what++) put(x.drawing(drawing, what));
        }
    }

    private void where() {
        for (int f = 0; f < 48; f++) {
            for (int level = 0; level < 4; level++) put(x.where(level, f));
            put(x.where(9, f));
        }
    }

    private void exposed() {
        for (int level = 0; level < 4; level++) {
            for (int f = 0; f < 48; f++) put(x.exposed(level, f));
        }
    }

    /** The orders as they are, and as they are when one switch more is gone. */
    private void orders() {
        for (int i = 0; i < 5; i++) {
            for (int f = 0; f < 48; f++) put(x.order(f));
            put(x.back());
        }
    }

    private void looks(int from, int to) {
        for (int f = from; f < to; f++) {
            for (int c = 0; c < 10; c++) put(x.look(f, c));
        }
    }

    private void undoneDelays() {
        for (int i = 0; i < 15; i++) {
            put(x.undo());
            for (int level = 0; level < 4; level++) put(x.level(level, 1));
            put(x.count(3));
            for (int f = 0; f < 48; f += 7) put(x.order(f));
        }
    }

    private void undonePans() {
        for (int i = 0; i < 15; i++) {
            put(x.undo());
            for (int level = 0; level < 5; level++) {
                put(x.where(level == 4 ? 9 : level, 0));
                put(x.where(level == 4 ? 9 : level, 47));
                put(x.where(level == 4 ? 9 : level, 8));
            }
        }
    }

    private void undoneDrawings() {
        for (int i = 0; i < 15; i++) {
            put(x.undo());
            for (int drawing = 0; drawing < 6; drawing++) {
                put(x.drawing(drawing, 0));
                put(x.drawing(drawing, 1));
            }
        }
    }

    private void kept(int slot) {
        put(x.again(slot));
        for (int what = 0; what < 6; what++) put(x.count(what));
        drawings();
        for (int level = 0; level < 5; level++) {
            put(x.level(level, 1));
            put(x.where(level == 4 ? 9 : level, 0));
            put(x.where(level == 4 ? 9 : level, 8));
            put(x.where(level == 4 ? 9 : level, 47));
        }
        for (int f = 0; f < 48; f++) put(x.order(f));
        put(x.undo());
    }

    /** What was seen shows in other settings too; the text, when it becomes the reel. */
    private void textAndSeen() {
        for (int drawing = 0; drawing < 6; drawing++) {
            x.redraw(drawing, 0, 5);
            put(x.which());
            x.pan(9, -drawing, 0, 1);
            put(x.which());
        }
        put(x.fault());
        put(x.reel());
        put(x.count(1));
        put(x.which());
        drawings();
        for (int level = 0; level < 4; level++) {
            put(x.level(level, 0));
            put(x.level(level, 2));
        }
        for (int f = 0; f < 48; f++) {
            put(x.exposed(0, f));
            put(x.exposed(1, f));
        }
        put(x.unsee());
        put(x.wipe());
    }
}
