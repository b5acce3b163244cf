/**
 * "REFUSALS, of several the first that a call names (in just that row) .. What is refused changes nothing."
 * For each promise: each refusal by itself, each number's first that is not taken on both sides, two refusals
 * at once, and that nothing that can be found out is another thing than ahead of it.
 */
public final class RefusalTest {
    private static final int UNKNOWN = -1, OUTSIDE = -2, STATE = -3, FULL = -4;
    private static final int LOW = Integer.MIN_VALUE, HIGH = Integer.MAX_VALUE;

    private static final Edges edges = new Edges();

    private static void refused(String what, Edges.Setup setup, Edges.Call call, int want) {
        edges.unchanged(what, setup, call, want);
    }

    public static void main(String[] args) {
        writeRefusals();
        reelRefusals();
        drawingRefusals();
        levelRefusals();
        whereRefusals();
        redrawRefusals();
        delayRefusals();
        panRefusals();
        swapRefusals();
        swapOrders();
        backAndUndoRefusals();
        exposedRefusals();
        orderAndLookRefusals();
        askRefusals();
        judgeRefusals();
        seeRefusals();
        shareRefusals();
        lostRefusals();
        looksRefusals();
        keepRefusals();
        againRefusals();
        countRefusals();
        edges.end();
    }

    private static void writeRefusals() {
        edges.taken("P2 letter", Edges.ROOM, 0, 255, OUTSIDE, (x, n) -> x.write(n));
        edges.taken("P2 letter, the first", Edges.NEW, 0, 255, OUTSIDE, (x, n) -> x.write(n));
        refused("P2 FULL: there are 80", Edges.BUSY, x -> x.write('.'), FULL);
        refused("P2 FULL, letter 0", Edges.BUSY, x -> x.write(0), FULL);
        refused("P2 FULL, letter 255", Edges.BUSY, x -> x.write(255), FULL);
        refused("P2 OUTSIDE ahead of FULL, below", Edges.BUSY, x -> x.write(-1), OUTSIDE);
        refused("P2 OUTSIDE ahead of FULL, above", Edges.BUSY, x -> x.write(256), OUTSIDE);
        edges.changed("P2 the 80th letter", Edges.ROOM, x -> x.write('.'));
    }

    private static void reelRefusals() {
        refused("P5 STATE: a fault", Edges.FAULTY, x -> x.reel(), STATE);
        refused("P5 STATE: 79 letters, only not at the end", Edges.ROOM, x -> x.reel(), STATE);
        refused("P5 STATE: no letter", Edges.NEW, x -> x.reel(), STATE);
        refused("P4 is asked only", Edges.FAULTY, x -> x.fault(), 13);
        refused("P4 is asked only, no fault", Edges.BUSY, x -> x.fault(), -9);
    }

    private static void drawingRefusals() {
        edges.taken("P6 drawing", Edges.BUSY, 0, 5, UNKNOWN, (x, n) -> x.drawing(n, 0));
        edges.taken("P6 what", Edges.BUSY, 0, 2, OUTSIDE, (x, n) -> x.drawing(5, n));
        refused("P6 none at first", Edges.NEW, x -> x.drawing(0, 0), UNKNOWN);
        refused("P6 UNKNOWN ahead of OUTSIDE, above", Edges.BUSY, x -> x.drawing(6, 3), UNKNOWN);
        refused("P6 UNKNOWN ahead of OUTSIDE, below", Edges.BUSY, x -> x.drawing(-1, -1), UNKNOWN);
        refused("P6 UNKNOWN ahead of OUTSIDE, none", Edges.NEW, x -> x.drawing(0, 3), UNKNOWN);
    }

    private static void levelRefusals() {
        edges.taken("P7 level", Edges.BUSY, 0, 3, UNKNOWN, (x, n) -> x.level(n, 0));
        edges.taken("P7 what", Edges.BUSY, 0, 3, OUTSIDE, (x, n) -> x.level(3, n));
        refused("P7 none at first", Edges.NEW, x -> x.level(0, 0), UNKNOWN);
        refused("P7 the camera is no level", Edges.BUSY, x -> x.level(9, 1), UNKNOWN);
        refused("P7 UNKNOWN ahead of OUTSIDE, above", Edges.BUSY, x -> x.level(4, 4), UNKNOWN);
        refused("P7 UNKNOWN ahead of OUTSIDE, below", Edges.BUSY, x -> x.level(-1, -1), UNKNOWN);
        refused("P7 UNKNOWN ahead of OUTSIDE, none", Edges.NEW, x -> x.level(0, 4), UNKNOWN);
        for (int level = 0; level < 4; level++) {
            int l = level;
            edges.unchanged("P7 SHORT is asked only", Edges.BUSY, x -> x.level(l, 2), new int[] {9, 2, 11, 0}[l]);
            edges.unchanged("P7 BEST is asked only", Edges.BUSY, x -> x.level(l, 3), 0);
        }
    }

    private static void whereRefusals() {
        edges.taken("P8 f of a level", Edges.BUSY, 0, 47, OUTSIDE, (x, n) -> x.where(3, n));
        edges.taken("P8 f of the camera", Edges.BUSY, 0, 47, OUTSIDE, (x, n) -> x.where(9, n));
        edges.taken("P8 f of the camera, none told", Edges.NEW, 0, 47, OUTSIDE, (x, n) -> x.where(9, n));
        edges.taken("P8 level", Edges.BUSY, 0, 3, UNKNOWN, (x, n) -> x.where(n, 0));
        edges.taken("P8 the camera", Edges.BUSY, 9, 9, UNKNOWN, (x, n) -> x.where(n, 0));
        refused("P8 none at first", Edges.NEW, x -> x.where(0, 0), UNKNOWN);
        refused("P8 UNKNOWN ahead of OUTSIDE, above", Edges.BUSY, x -> x.where(4, 48), UNKNOWN);
        refused("P8 UNKNOWN ahead of OUTSIDE, below", Edges.BUSY, x -> x.where(-1, -1), UNKNOWN);
        refused("P8 UNKNOWN ahead of OUTSIDE, by the camera", Edges.BUSY, x -> x.where(10, 48), UNKNOWN);
    }

    private static void redrawRefusals() {
        edges.taken("P9 drawing", Edges.BUSY, 0, 5, UNKNOWN, (x, n) -> x.redraw(n, 0, 1));
        edges.taken("P9 x", Edges.BUSY, 0, 9, OUTSIDE, (x, n) -> x.redraw(5, n, 1));
        edges.taken("P9 width", Edges.BUSY, 1, 5, OUTSIDE, (x, n) -> x.redraw(0, 9, n));
        refused("P9 none at first", Edges.NEW, x -> x.redraw(0, 0, 1), UNKNOWN);
        refused("P9 both numbers", Edges.BUSY, x -> x.redraw(0, 10, 6), OUTSIDE);
        refused("P9 UNKNOWN ahead of OUTSIDE, x", Edges.BUSY, x -> x.redraw(6, 10, 1), UNKNOWN);
        refused("P9 UNKNOWN ahead of OUTSIDE, width", Edges.BUSY, x -> x.redraw(-1, 0, 0), UNKNOWN);
    }

    private static void delayRefusals() {
        edges.taken("P10 level", Edges.BUSY, 0, 3, UNKNOWN, (x, n) -> x.delay(n, 0));
        edges.taken("P10 v", Edges.BUSY, 0, 9, OUTSIDE, (x, n) -> x.delay(3, n));
        refused("P10 none at first", Edges.NEW, x -> x.delay(0, 0), UNKNOWN);
        refused("P10 the camera has no delay", Edges.BUSY, x -> x.delay(9, 0), UNKNOWN);
        refused("P10 UNKNOWN ahead of OUTSIDE, above", Edges.BUSY, x -> x.delay(4, 10), UNKNOWN);
        refused("P10 UNKNOWN ahead of OUTSIDE, below", Edges.BUSY, x -> x.delay(-1, -1), UNKNOWN);
    }

    private static void panRefusals() {
        edges.taken("P11 level", Edges.BUSY, 0, 3, UNKNOWN, (x, n) -> x.pan(n, 0, 0, 1));
        edges.taken("P11 the camera", Edges.BUSY, 9, 9, UNKNOWN, (x, n) -> x.pan(n, 0, 0, 1));
        for (int level : new int[] {0, 3, 9}) {
            edges.taken("P11 start of " + level, Edges.BUSY, -9, 9, OUTSIDE, (x, n) -> x.pan(level, n, 0, 1));
            edges.taken("P11 by of " + level, Edges.BUSY, -3, 3, OUTSIDE, (x, n) -> x.pan(level, 0, n, 1));
            edges.taken("P11 every of " + level, Edges.BUSY, 1, 9, OUTSIDE, (x, n) -> x.pan(level, 0, 1, n));
        }
        refused("P11 none at first", Edges.NEW, x -> x.pan(0, 0, 0, 1), UNKNOWN);
        refused("P11 all three numbers", Edges.BUSY, x -> x.pan(9, 10, 4, 0), OUTSIDE);
        refused("P11 UNKNOWN ahead of OUTSIDE, start", Edges.BUSY, x -> x.pan(4, 10, 0, 1), UNKNOWN);
        refused("P11 UNKNOWN ahead of OUTSIDE, by", Edges.BUSY, x -> x.pan(-1, 0, -4, 1), UNKNOWN);
        refused("P11 UNKNOWN ahead of OUTSIDE, every", Edges.BUSY, x -> x.pan(8, 0, 0, 0), UNKNOWN);
        refused("P11 UNKNOWN ahead of OUTSIDE, none at first", Edges.NEW, x -> x.pan(0, 10, 0, 1), UNKNOWN);
    }

    private static void swapRefusals() {
        edges.taken("P12 f", Edges.ROOM, 0, 47, OUTSIDE, (x, n) -> x.swap(n, 3210));
        refused("P12 FULL: 4", Edges.BUSY, x -> x.swap(0, 3210), FULL);
        refused("P12 FULL at frame 47", Edges.BUSY, x -> x.swap(47, 123), FULL);
        refused("P12 OUTSIDE ahead of FULL, f", Edges.BUSY, x -> x.swap(48, 3210), OUTSIDE);
        refused("P12 OUTSIDE ahead of FULL, f below", Edges.BUSY, x -> x.swap(-1, 3210), OUTSIDE);
        refused("P12 OUTSIDE ahead of FULL, order", Edges.BUSY, x -> x.swap(0, 3211), OUTSIDE);
        refused("P12 both numbers", Edges.ROOM, x -> x.swap(48, 0), OUTSIDE);
        edges.changed("P12 the fourth", Edges.ROOM, x -> x.swap(0, 3210));
    }

    private static void swapOrders() {
        for (int order : new int[] {-1, -123, -3210, 0, 12, 122, 124, 1023456, 1123, 1234, 3211, 3209, 4210, 4321, 10123, 12345, LOW, HIGH}) {
            refused("P12 order " + order, Edges.ROOM, x -> x.swap(0, order), OUTSIDE);
        }
        // a long order whose lowest figures alone would be one
        refused("P12 order 13210", Edges.ROOM, x -> x.swap(0, 13210), OUTSIDE);
        refused("P12 order -1 without levels", Edges.NEW, x -> x.swap(0, -1), OUTSIDE);
        refused("P12 order 1 without levels", Edges.NEW, x -> x.swap(0, 1), OUTSIDE);
        refused("P12 order 10 without levels", Edges.NEW, x -> x.swap(0, 10), OUTSIDE);
    }

    private static void backAndUndoRefusals() {
        refused("P13 STATE: there is none", Edges.NO_SWITCHES, x -> x.back(), STATE);
        refused("P13 STATE, new", Edges.NEW, x -> x.back(), STATE);
        edges.changed("P13 there are four", Edges.BUSY, x -> x.back());
        refused("P14 STATE: there is none", Edges.NO_ACTS, x -> x.undo(), STATE);
        refused("P14 STATE, gone on from a slot", Edges.GONE_ON, x -> x.undo(), STATE);
        refused("P14 STATE, new", Edges.NEW, x -> x.undo(), STATE);
        edges.changed("P14 there are 14", Edges.BUSY, x -> x.undo());
    }

    private static void exposedRefusals() {
        edges.taken("P15 level", Edges.BUSY, 0, 3, UNKNOWN, (x, n) -> x.exposed(n, 5));
        edges.taken("P15 f", Edges.BUSY, 0, 47, OUTSIDE, (x, n) -> x.exposed(3, n));
        refused("P15 none at first", Edges.NEW, x -> x.exposed(0, 0), UNKNOWN);
        refused("P15 the camera is no level", Edges.BUSY, x -> x.exposed(9, 0), UNKNOWN);
        refused("P15 UNKNOWN ahead of OUTSIDE, above", Edges.BUSY, x -> x.exposed(4, 48), UNKNOWN);
        refused("P15 UNKNOWN ahead of OUTSIDE, below", Edges.BUSY, x -> x.exposed(-1, -1), UNKNOWN);
    }

    private static void orderAndLookRefusals() {
        edges.taken("P16 f", Edges.BUSY, 0, 47, OUTSIDE, (x, n) -> x.order(n));
        edges.taken("P16 f, new", Edges.NEW, 0, 47, OUTSIDE, (x, n) -> x.order(n));
        edges.taken("P17 f", Edges.BUSY, 0, 47, OUTSIDE, (x, n) -> x.look(n, 9));
        edges.taken("P17 c", Edges.BUSY, 0, 9, OUTSIDE, (x, n) -> x.look(47, n));
        edges.taken("P17 f, new", Edges.NEW, 0, 47, OUTSIDE, (x, n) -> x.look(n, 0));
        edges.taken("P17 c, new", Edges.NEW, 0, 9, OUTSIDE, (x, n) -> x.look(0, n));
        refused("P17 both", Edges.BUSY, x -> x.look(48, 10), OUTSIDE);
    }

    private static void askRefusals() {
        edges.taken("P18 what", Edges.BUSY, 0, 1, OUTSIDE, (x, n) -> x.ask(n));
        edges.taken("P18 what, new", Edges.NEW, 0, 1, OUTSIDE, (x, n) -> x.ask(n));
    }

    private static void judgeRefusals() {
        edges.taken("P19 n", Edges.BUSY, 1, 4, OUTSIDE, (x, n) -> x.judge(n, 0));
        refused("P19 row -1", Edges.BUSY, x -> x.judge(4, -1), OUTSIDE);
        refused("P19 row least", Edges.BUSY, x -> x.judge(4, Long.MIN_VALUE), OUTSIDE);
        refused("P19 row most", Edges.BUSY, x -> x.judge(4, Long.MAX_VALUE), OUTSIDE);
        long rows = 1;
        for (int n = 1; n <= 4; n++) {
            rows *= 10000;
            int doings = n;
            long first = rows;
            refused("P19 one figure too many of " + n, Edges.BUSY, x -> x.judge(doings, first), OUTSIDE);
            refused("P19 as many figures as can be of " + n, Edges.BUSY, x -> x.judge(doings, first - 1), 0);
            refused("P19 row -1 of " + n, Edges.BUSY, x -> x.judge(doings, -1), OUTSIDE);
        }
        refused("P19 n and row", Edges.BUSY, x -> x.judge(0, -1), OUTSIDE);
        refused("P19 n 5, a row of 20 figures can not be", Edges.BUSY, x -> x.judge(5, 1000000000000000000L), OUTSIDE);
        // for this call alone, whether all can be or not
        refused("P19 done for this call alone", Edges.BUSY, x -> x.judge(4, 1009409570007000L), -9);
        refused("P19 done up to the last", Edges.BUSY, x -> x.judge(4, 1009409570005099L), 3);
        refused("P19 BACK as often as there are switches", Edges.BUSY, x -> x.judge(4, 7000700070007000L), -9);
        refused("P19 BACK without one", Edges.NO_SWITCHES, x -> x.judge(1, 7000), 0);
    }

    private static void seeRefusals() {
        edges.taken("P20 f", Edges.ROOM, 0, 47, OUTSIDE, (x, n) -> x.see(n, 0, 0));
        edges.taken("P20 c", Edges.ROOM, 0, 9, OUTSIDE, (x, n) -> x.see(0, n, 0));
        edges.taken("P20 v", Edges.ROOM, 0, 39, OUTSIDE, (x, n) -> x.see(0, 0, n));
        edges.taken("P20 v NONE", Edges.ROOM, -9, -9, OUTSIDE, (x, n) -> x.see(0, 0, n));
        for (int v = -12; v < 0; v++) {
            int value = v;
            if (v != -9) refused("P20 v " + v, Edges.ROOM, x -> x.see(0, 0, value), OUTSIDE);
        }
        refused("P20 FULL: 6", Edges.BUSY, x -> x.see(0, 0, 0), FULL);
        refused("P20 FULL: 6, NONE", Edges.BUSY, x -> x.see(47, 9, -9), FULL);
        refused("P20 OUTSIDE ahead of FULL, f", Edges.BUSY, x -> x.see(48, 0, 0), OUTSIDE);
        refused("P20 OUTSIDE ahead of FULL, c", Edges.BUSY, x -> x.see(0, 10, 0), OUTSIDE);
        refused("P20 OUTSIDE ahead of FULL, v", Edges.BUSY, x -> x.see(0, 0, 40), OUTSIDE);
        edges.changed("P20 the sixth", Edges.ROOM, x -> x.see(0, 0, 0));
    }

    private static void shareRefusals() {
        for (boolean upper : new boolean[] {true, false}) {
            edges.taken("P23 level", Edges.BUSY, 0, 3, UNKNOWN, (x, n) -> x.share(n, upper));
            refused("P23 none at first", Edges.NEW, x -> x.share(0, upper), UNKNOWN);
            refused("P23 the camera is no level", Edges.BUSY, x -> x.share(9, upper), UNKNOWN);
        }
    }

    private static void lostRefusals() {
        for (boolean upper : new boolean[] {true, false}) {
            edges.taken("P24 f", Edges.BUSY, 0, 47, OUTSIDE, (x, n) -> x.lost(n, 0, 5, upper));
            edges.taken("P24 c", Edges.BUSY, 0, 9, OUTSIDE, (x, n) -> x.lost(0, n, 5, upper));
            edges.taken("P24 x", Edges.BUSY, 0, 10, OUTSIDE, (x, n) -> x.lost(0, 0, n, upper));
            edges.taken("P24 x without levels", Edges.NEW, 0, 10, OUTSIDE, (x, n) -> x.lost(0, 0, n, upper));
            refused("P24 all three", Edges.BUSY, x -> x.lost(48, 10, 11, upper), OUTSIDE);
        }
    }

    private static void looksRefusals() {
        edges.taken("P26 m", Edges.BUSY, 1, 40, OUTSIDE, (x, n) -> x.looks(n));
        edges.taken("P26 m, new", Edges.NEW, 1, 40, OUTSIDE, (x, n) -> x.looks(n));
        edges.changed("P26 one look", Edges.BUSY, x -> x.looks(1));
    }

    private static void keepRefusals() {
        edges.taken("P27 slot", Edges.BUSY, 0, 1, UNKNOWN, (x, n) -> x.keep(n));
        edges.taken("P27 slot, new", Edges.NEW, 0, 1, UNKNOWN, (x, n) -> x.keep(n));
    }

    private static void againRefusals() {
        edges.taken("P28 slot", Edges.BUSY, 0, 1, UNKNOWN, (x, n) -> x.again(n));
        for (int slot = 0; slot < 2; slot++) {
            int s = slot;
            refused("P28 STATE: none were kept", Edges.NOTHING_KEPT, x -> x.again(s), STATE);
            refused("P28 STATE, new", Edges.NEW, x -> x.again(s), STATE);
        }
        for (int slot : new int[] {-1, 2, LOW, HIGH}) {
            refused("P28 UNKNOWN ahead of STATE", Edges.NOTHING_KEPT, x -> x.again(slot), UNKNOWN);
        }
    }

    private static void countRefusals() {
        edges.taken("P29 what", Edges.BUSY, 0, 5, OUTSIDE, (x, n) -> x.count(n));
        edges.taken("P29 what, new", Edges.NEW, 0, 5, OUTSIDE, (x, n) -> x.count(n));
    }
}
