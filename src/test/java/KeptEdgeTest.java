/** The edges of promises 27 to 29, one method for each sentence. */
public final class KeptEdgeTest {
    private static final int OUTSIDE = -2, STATE = -3, FULL = -4, NONE = -9;
    private static final String SIX = "Kd01d01d01d01d01d01";

    private static final Edges edges = new Edges();

    private static void due(String what, long got, long want) {
        edges.due(what, got, want);
    }

    public static void main(String[] args) {
        slotsByThemselves();
        keptOfANewObject();
        howManySwitches();
        allThatIsKept();
        atTheEdges();
        whatIsNotKept();
        theRowIsEmpty();
        keptStaysKept();
        keptIsACopy();
        goneByAReel();
        keepingChangesNothingElse();
        countsOfNone();
        countsOfAll();
        edges.end();
    }

    /** "SLOTS to keep in, 0 to 1". */
    private static void slotsByThemselves() {
        Desk x = Desk.of("Kv.v.");
        x.delay(0, 1);
        due("P27 slot 0", x.keep(0), 0);
        due("P28 slot 1 is empty", x.again(1), STATE);
        x.delay(0, 2);
        due("P27 slot 1", x.keep(1), 0);
        x.delay(0, 3);
        due("P28 slot 0", x.again(0), 0);
        due("P7 of slot 0", x.level(0, 1), 1);
        due("P28 slot 1", x.again(1), 0);
        due("P7 of slot 1", x.level(0, 1), 2);
        Desk y = new Desk();
        due("P27 slot 1 alone", y.keep(1), 0);
        due("P28 slot 0 is empty", y.again(0), STATE);
        due("P28 slot 1", y.again(1), 0);
    }

    private static void keptOfANewObject() {
        Desk x = new Desk();
        due("P27 new", x.keep(0), 0);
        x.pan(9, 9, 3, 1);
        x.swap(0, 0);
        due("P28 new", x.again(0), 0);
        due("P8 the camera's PAN", x.where(9, 47), 1000);
        due("P29 no switches", x.count(3), 0);
        due("P29 no acts", x.count(4), 0);
        due("P13 none", x.back(), STATE);
    }

    private static void howManySwitches() {
        Desk x = Desk.of("Kv.v.");
        for (int i = 0; i <= 4; i++) {
            due("P27 " + i, x.keep(i % 2), i);
            due("P28 " + i, x.again(i % 2), i);
            x.swap(i, 10);
        }
        due("P28 of slot 1", x.again(1), 3);
        due("P12 room for one", x.swap(0, 1), 4);
        due("P28 of slot 0", x.again(0), 4);
        due("P12 full", x.swap(0, 1), FULL);
    }

    /** "keep X, WIDTH, DELAYS, PANS (THE CAMERA's, too), SWITCHES". */
    private static void allThatIsKept() {
        Desk x = Desk.of("Kd03d22va4b2.v-1b3a2.");
        x.redraw(1, 8, 4);
        x.delay(0, 6);
        x.pan(1, 3, 1, 2);
        x.pan(9, 4, -1, 5);
        x.swap(5, 10);
        x.swap(5, 1);
        x.swap(9, 10);
        due("P27 three", x.keep(1), 3);
        x.redraw(1, 1, 1);
        x.redraw(0, 1, 1);
        x.delay(0, 1);
        x.delay(1, 1);
        x.pan(0, 1, 1, 1);
        x.pan(1, 1, 1, 1);
        x.pan(9, 1, 1, 1);
        for (int i = 0; i < 3; i++) x.back();
        for (int i = 0; i < 4; i++) x.swap(20 + i, i % 2 == 0 ? 1 : 10);
        due("P28 three", x.again(1), 3);
        due("P6 X", x.drawing(1, 0), 8);
        due("P6 WIDTH", x.drawing(1, 1), 4);
        due("P6 X that was as told", x.drawing(0, 0), 0);
        due("P7 DELAY", x.level(0, 1), 6);
        due("P7 DELAY that was 0", x.level(1, 1), 0);
        due("P8 PAN", x.where(1, 47), 1026);
        due("P8 PAN that was as at first", x.where(0, 47), 1000);
        due("P8 the camera's", x.where(9, 47), 995);
        due("P8 the camera's EVERY", x.where(9, 4), 1004);
        due("P16 ahead of all", x.order(4), 1);
        due("P16 of like ones the last told", x.order(5), 1);
        due("P16 the last", x.order(9), 10);
        due("P13 the last told goes first", x.back(), 2);
        due("P16 then", x.order(9), 1);
        due("P13 then", x.back(), 1);
        due("P16 then", x.order(9), 10);
    }

    private static void atTheEdges() {
        Desk x = Desk.of(SIX + "v.v.v.v.");
        x.redraw(5, 9, 5);
        x.delay(3, 9);
        x.pan(3, -9, -3, 9);
        x.pan(9, 9, 3, 1);
        for (int i = 0; i < 4; i++) x.swap(47 - i, i % 2 == 0 ? 3210 : 123);
        due("P27 four", x.keep(0), 4);
        x.redraw(5, 0, 1);
        x.delay(3, 0);
        x.pan(3, 9, 3, 1);
        x.pan(9, -9, -3, 9);
        for (int i = 0; i < 4; i++) x.back();
        due("P28 four", x.again(0), 4);
        due("P9 X 9, WIDTH 5", x.redraw(5, 0, 1), 95);
        due("P10 9", x.delay(3, 0), 9);
        due("P8 -9, -3, 9", x.where(3, 47), 976);
        due("P8 9, 3, 1", x.where(9, 47), 1150);
        due("P16 at 47", x.order(47), 3210);
        due("P16 at 46", x.order(46), 123);
        due("P16 at 43", x.order(43), 123);
    }

    private static void whatIsNotKept() {
        Desk x = Desk.of("Kd01va1.");
        x.keep(0);
        x.more("v.");
        x.see(0, 0, NONE);
        x.seed(9);
        x.again(0);
        due("P29 THE TEXT stays", x.count(0), 10);
        due("P29 SEEN stay", x.count(5), 1);
        due("P22 what is seen stays", x.which(), 1);
        due("P25 THE SEED stays", x.seed(0), 9);
    }

    /** "(THE ROW of ACTS is empty when one goes on)". */
    private static void theRowIsEmpty() {
        Desk x = Desk.of("Kd01va1.");
        for (int i = 0; i < 14; i++) x.delay(0, i % 10);
        x.keep(0);
        due("P29 keeping leaves the row", x.count(4), 14);
        due("P28 goes on", x.again(0), 0);
        due("P29 the row is empty", x.count(4), 0);
        due("P14 nothing to undo", x.undo(), STATE);
        due("P7 as kept", x.level(0, 1), 3);
        x.delay(0, 8);
        due("P29 a new row", x.count(4), 1);
        due("P14 its first", x.undo(), 0);
        due("P7 as kept", x.level(0, 1), 3);
        x.swap(0, 0);
        x.keep(1);
        x.again(1);
        due("P14 a kept switch can not be undone", x.undo(), STATE);
        due("P13 but it can go back", x.back(), 0);
        due("P14 and that be undone", x.undo(), 0);
        due("P29 one switch", x.count(3), 1);
    }

    private static void keptStaysKept() {
        Desk x = Desk.of("Kd01va1.");
        x.delay(0, 4);
        x.keep(0);
        for (int i = 0; i < 3; i++) {
            x.delay(0, i);
            x.swap(0, 0);
            due("P28 once more", x.again(0), 0);
            due("P7 as kept", x.level(0, 1), 4);
        }
        x.delay(0, 5);
        x.keep(0);
        x.delay(0, 6);
        x.again(0);
        due("P27 kept anew", x.level(0, 1), 5);
    }

    private static void keptIsACopy() {
        Desk x = Desk.of("Kd01va1.");
        x.keep(0);
        x.redraw(0, 9, 5);
        x.delay(0, 9);
        x.pan(0, 9, 3, 1);
        x.pan(9, 9, 3, 1);
        x.swap(0, 0);
        x.undo();
        x.judge(2, 10044032L);
        x.level(0, 3);
        due("P28 as it was kept", x.again(0), 0);
        due("P6 X", x.drawing(0, 0), 0);
        due("P6 WIDTH", x.drawing(0, 1), 1);
        due("P7 DELAY", x.level(0, 1), 0);
        due("P8 PAN", x.where(0, 47), 1000);
        due("P8 the camera's", x.where(9, 47), 1000);
        x.delay(0, 9);
        x.pan(9, 1, 1, 1);
        x.again(0);
        due("P7 what is done behind it is not kept", x.level(0, 1), 0);
        due("P8 what is done behind it is not kept", x.where(9, 47), 1000);
    }

    /** "what was kept is gone", but not by a reel that is refused. */
    private static void goneByAReel() {
        Desk x = Desk.of("Kd01va1.");
        x.delay(0, 2);
        x.keep(0);
        x.keep(1);
        x.write('x');
        due("P5 refused", x.reel(), STATE);
        due("P28 still kept", x.again(0), 0);
        due("P28 still kept", x.again(1), 0);
        x.tell("Kd01va1.");
        due("P5 the same text", x.reel(), 1);
        due("P28 gone", x.again(0), STATE);
        due("P28 gone", x.again(1), STATE);
        due("P27 kept anew", x.keep(1), 0);
        due("P28 as kept", x.again(1), 0);
        due("P28 the other is still empty", x.again(0), STATE);
    }

    private static void keepingChangesNothingElse() {
        // BUSY kept in slot 1 ahead of its last acts, GONE_ON is just what slot 1 keeps
        edges.unchanged("P27 kept as it is kept already", Edges.GONE_ON, x -> x.keep(1), 4);
        edges.unchanged("P28 gone on from where it is", Edges.GONE_ON, x -> x.again(1), 4);
        for (int slot = 0; slot < 2; slot++) {
            int s = slot;
            edges.unchanged("P28 whatever was done", Edges.KEPT_TWICE, x -> {
                doAll(x);
                return x.again(s);
            }, 4);
        }
        edges.changed("P27 kept anew", Edges.BUSY, x -> x.keep(1));
        edges.changed("P28 gone on", Edges.BUSY, x -> x.again(1));
    }

    /** Each number that can be told is told anew. */
    private static void doAll(Calls x) {
        for (int d = 0; d < 6; d++) x.redraw(d, 7, 1 + d % 2);
        for (int level = 0; level < 4; level++) {
            x.delay(level, 8);
            x.pan(level, 5, -2, 4);
        }
        x.pan(9, 3, 2, 3);
        for (int i = 0; i < 4; i++) x.back();
        for (int i = 0; i < 4; i++) x.swap(5 + 11 * i, i % 2 == 0 ? 132 : 2130);
    }

    // ---- count

    private static void countsOfNone() {
        Desk x = new Desk();
        for (int what = -3; what < 9; what++) due("P29 " + what, x.count(what), what < 0 || what > 5 ? OUTSIDE : 0);
    }

    private static void countsOfAll() {
        Desk x = new Desk();
        Edges.BUSY.on(x);
        int[] want = {80, 6, 4, 4, 14, 6};
        for (int what = 0; what < 6; what++) due("P29 full " + what, x.count(what), want[what]);
        due("P29 -1", x.count(-1), OUTSIDE);
        due("P29 6", x.count(6), OUTSIDE);
    }
}
