/** The edges of promises 15 to 19 and of what the terms say of what is asked, one method for each sentence. */
public final class AskedEdgeTest {
    private static final int OUTSIDE = -2, NONE = -9;
    private static final String SIX = "Kd01d01d01d01d01d01";
    /** a is seen in window 0, b in window 1; level 0 is aab, level 1 is -ba. */
    private static final String JUDGED = "Kd01d11va2b1.v-1b1a1.";

    private static final Edges edges = new Edges();

    private static void due(String what, long got, long want) {
        edges.due(what, got, want);
    }

    public static void main(String[] args) {
        exposedFromBeginToEnd();
        exposedDelayed();
        exposedNothing();
        orderAtFirst();
        orderFromAFrameOn();
        orderOfLikeOnes();
        coversFromXOn();
        columnsLessThanZero();
        columnsFarOff();
        theFirstInOrder();
        highestAndLowestSeen();
        oneDrawingOnUnlikeLevels();
        changesOfNoneAndAll();
        changesAtTheFirstAndLast();
        changesInOneWindow();
        changesOfLevels();
        celsOfNoneAndAll();
        celsNeverExposed();
        celsAtOneFrame();
        judgedRows();
        judgedDelayed();
        judgedExposed();
        judgedSeen();
        judgedDrawnAnew();
        judgedCels();
        judgedOnTop();
        judgedBack();
        judgedKinds();
        judgedWithoutLevels();
        judgedAsItIsThen();
        judgedForThisCallAlone();
        edges.end();
    }

    // ---- EXPOSED

    private static void exposedFromBeginToEnd() {
        Desk x = Desk.of("Kd01d01va1b9.v(b8)6.v.");
        due("P15 first", x.exposed(0, 0), 0);
        due("P15 second", x.exposed(0, 1), 1);
        due("P15 LONG less one", x.exposed(0, 9), 1);
        due("P15 LONG", x.exposed(0, 10), NONE);
        due("P15 47 of 48", x.exposed(1, 47), 1);
        for (int f = 0; f < 48; f++) due("P15 of an empty sheet", x.exposed(2, f), NONE);
    }

    /** "its FRAME f less DELAY .. NONE, if that is less than 0, LONG or more". */
    private static void exposedDelayed() {
        Desk x = Desk.of("Kd01d01va1b1.v(a8)5a7b1.");
        for (int v = 0; v <= 9; v++) {
            x.delay(0, v);
            if (v > 0) due("P15 less than 0", x.exposed(0, v - 1), NONE);
            due("P15 0", x.exposed(0, v), 0);
            due("P15 LONG less one", x.exposed(0, v + 1), 1);
            due("P15 LONG", x.exposed(0, v + 2), NONE);
        }
        due("P15 the last of 48", x.exposed(1, 47), 1);
        x.delay(1, 1);
        due("P15 it is beyond 47", x.exposed(1, 47), 0);
        x.delay(1, 9);
        due("P15 nine later", x.exposed(1, 8), NONE);
        due("P15 nine later", x.exposed(1, 9), 0);
    }

    private static void exposedNothing() {
        Desk x = Desk.of("Kd01v-1a1-2a1-9.");
        int[] want = {NONE, 0, NONE, NONE, 0, NONE, NONE};
        for (int f = 0; f < want.length; f++) due("P15 at " + f, x.exposed(0, f), want[f]);
        due("P7 nothing is counted", x.level(0, 0), 14);
        x.delay(0, 1);
        for (int f = 0; f < want.length; f++) due("P15 at " + (f + 1), x.exposed(0, f + 1), want[f]);
    }

    // ---- ORDER

    private static void orderAtFirst() {
        String[] reels = {"K", "Kv.", "Kv.v.", "Kv.v.v.", "Kv.v.v.v."};
        int[] want = {0, 0, 1, 12, 123};
        for (int levels = 0; levels <= 4; levels++) {
            Desk x = Desk.of(reels[levels]);
            for (int f = 0; f < 48; f++) due("P16 of " + levels + " at " + f, x.order(f), want[levels]);
        }
    }

    private static void orderFromAFrameOn() {
        Desk x = Desk.of("Kv.v.v.v.");
        x.swap(47, 3210);
        due("P16 at 46", x.order(46), 123);
        due("P16 at 47", x.order(47), 3210);
        x.swap(20, 1032);
        due("P16 at 19", x.order(19), 123);
        due("P16 at 20", x.order(20), 1032);
        due("P16 at 46", x.order(46), 1032);
        due("P16 the greatest frame, though told first", x.order(47), 3210);
        x.swap(0, 2301);
        due("P16 at 0", x.order(0), 2301);
        due("P16 at 19", x.order(19), 2301);
        due("P16 at 20", x.order(20), 1032);
        due("P16 at 47", x.order(47), 3210);
    }

    /** "of like ones the last told". */
    private static void orderOfLikeOnes() {
        Desk x = Desk.of("Kv.v.v.v.");
        int[] orders = {3210, 1032, 123, 2031};
        for (int order : orders) {
            x.swap(9, order);
            due("P16 the last told", x.order(9), order);
            due("P16 the last told at 47", x.order(47), order);
            due("P16 ahead of them", x.order(8), 123);
        }
        x.back();
        due("P16 the one told ahead", x.order(9), 123);
    }

    // ---- SEEN AT

    private static void coversFromXOn() {
        Desk x = Desk.of("Kd01va1.");
        for (int at = 0; at <= 9; at++) {
            for (int width = 1; width <= 5; width++) {
                x.redraw(0, at, width);
                int last = at + width - 1;
                if (at > 0) due("P17 left of it", x.look(0, at - 1), NONE);
                due("P17 X", x.look(0, at), 0);
                if (last <= 9) due("P17 its last column", x.look(0, last), 0);
                if (last < 9) due("P17 right of it", x.look(0, last + 1), NONE);
            }
        }
    }

    /** "COLUMNS are whole numbers, less than 0, too." */
    private static void columnsLessThanZero() {
        Desk x = Desk.of("Kd03va9.");
        x.pan(9, -9, 0, 1);
        due("P17 window 8 is column -1", x.look(0, 8), NONE);
        due("P17 window 9 is column 0", x.look(0, 9), 0);
        x.pan(0, -9, 0, 1);
        due("P17 window 0 is column -9", x.look(0, 0), 0);
        due("P17 window 2 is column -7", x.look(0, 2), 0);
        due("P17 window 3 is column -6", x.look(0, 3), NONE);
        x.pan(9, 0, 0, 1);
        for (int c = 0; c < 10; c++) due("P17 all of it is less than 0", x.look(0, c), NONE);
        x.pan(0, -2, 0, 1);
        due("P17 its last column is 0", x.look(0, 0), 0);
        due("P17 column 1", x.look(0, 1), NONE);
        x.pan(0, 1, -1, 2);
        int[] want = {1, 1, 0, 0};
        for (int f = 0; f < 4; f++) {
            due("P17 panned in steps, left at " + f, x.look(f, want[f]), 0);
            due("P17 panned in steps, right at " + f, x.look(f, want[f] + 2), 0);
            due("P17 panned in steps, beyond at " + f, x.look(f, want[f] + 3), NONE);
        }
        due("P17 at -1", x.look(4, 1), 0);
        due("P17 at -1, beyond", x.look(4, 2), NONE);
        due("P17 at -2", x.look(6, 0), 0);
        due("P17 at -2, beyond", x.look(6, 1), NONE);
        due("P17 at -3", x.look(8, 0), NONE);
    }

    private static void columnsFarOff() {
        Desk x = Desk.of("Kd95v(a8)6.");
        x.pan(9, 9, 3, 1);
        x.pan(0, 9, 3, 1);
        due("P17 together at 47", x.look(47, 9), 0);
        due("P17 together at 47, left", x.look(47, 8), NONE);
        x.redraw(0, 0, 5);
        due("P17 together at 47, first", x.look(47, 0), 0);
        due("P17 together at 47, last", x.look(47, 4), 0);
        due("P17 together at 47, beyond", x.look(47, 5), NONE);
        x.pan(9, -9, -3, 1);
        x.pan(0, -9, -3, 1);
        due("P17 far below", x.look(47, 0), 0);
        due("P17 far below, last", x.look(47, 4), 0);
        x.pan(0, 9, 3, 1);
        for (int c = 0; c < 10; c++) due("P17 as far apart as can be", x.look(47, c), NONE);
    }

    private static void theFirstInOrder() {
        Desk x = Desk.of("Kd01d02d03d04va9.vb9.vc9.vd9.");
        int[] want = {0, 11, 22, 33, NONE};
        for (int c = 0; c < 5; c++) due("P17 the lower ones beside the upper", x.look(0, c), want[c]);
        x.swap(5, 3210);
        for (int c = 0; c < 4; c++) due("P17 the last on top", x.look(5, c), 33);
        due("P17 not yet", x.look(4, 0), 0);
        x.swap(6, 1302);
        int[] mixed = {11, 11, 33, 33, NONE};
        for (int c = 0; c < 5; c++) due("P17 mixed", x.look(6, c), mixed[c]);
        x.delay(1, 9);
        due("P17 the first has nothing exposed", x.look(6, 0), 33);
    }

    private static void highestAndLowestSeen() {
        Desk x = Desk.of(SIX + "va1.v.v.v-1f1.");
        due("P17 lowest", x.look(0, 0), 0);
        due("P17 highest", x.look(1, 0), 35);
        due("P17 nothing", x.look(2, 0), NONE);
    }

    /** "A DRAWING told twice by ITEMS of unlike LEVELS is one and the same." */
    private static void oneDrawingOnUnlikeLevels() {
        Desk x = Desk.of("Kd01va1.v-1a1.");
        x.redraw(0, 9, 5);
        due("P17 drawn anew on the one", x.look(0, 9), 0);
        due("P17 and on the other", x.look(1, 9), 10);
        due("P17 not where it was", x.look(1, 0), NONE);
        due("P18 one cel", x.ask(1), 1);
        x.see(0, 9, NONE);
        x.see(1, 9, NONE);
        due("P22 rubbed out on both", x.which(), 1);
    }

    // ---- CHANGES

    /** "how many of FRAMES 1 to 47 there are". */
    private static void changesOfNoneAndAll() {
        due("P18 no levels", Desk.of("K").ask(0), 0);
        due("P18 an empty level", Desk.of("Kd01v.").ask(0), 0);
        due("P18 held for 48", Desk.of("Kd01v(a8)6.").ask(0), 0);
        due("P18 at each frame", Desk.of("Kd01d01v((a1b1)4)6.").ask(0), 47);
        due("P18 at each frame, beyond 48", Desk.of("Kd01d01v((a1b1)9)9.").ask(0), 47);
        due("P18 at each frame but the last", Desk.of("Kd01d01v((a1b1)4)5(a1b1)3a2.").ask(0), 46);
    }

    private static void changesAtTheFirstAndLast() {
        due("P18 at 1", Desk.of("Kd01va1.").ask(0), 1);
        due("P18 at 47", Desk.of("Kd01v(a9)5a2.").ask(0), 1);
        due("P18 at 48 there is no frame", Desk.of("Kd01v(a9)5a3.").ask(0), 0);
        due("P18 at 1 and 2", Desk.of("Kd01v-1a1.").ask(0), 2);
        due("P18 at 47 it begins", Desk.of("Kd01v(-9)5-2a1.").ask(0), 1);
        Desk x = Desk.of("Kd01v(-9)5-2a1.");
        x.delay(0, 1);
        due("P18 it is delayed beyond 47", x.ask(0), 0);
        Desk y = Desk.of("Kd01v(a8)6.v(a8)6.");
        y.swap(0, 10);
        due("P18 switched from 0 on", y.ask(0), 0);
        y.swap(47, 1);
        due("P18 switched at 47", y.ask(0), 1);
        y.swap(1, 1);
        due("P18 switched at 1, at 47 as ahead", y.ask(0), 1);
    }

    /** "in some WINDOW". */
    private static void changesInOneWindow() {
        Desk x = Desk.of("Kd01va1.");
        for (int at = 0; at <= 9; at++) {
            x.redraw(0, at, 1);
            due("P18 in window " + at + " alone", x.ask(0), 1);
        }
        x.redraw(0, 9, 1);
        x.pan(0, 1, 0, 1);
        due("P18 right of all windows", x.ask(0), 0);
        x.redraw(0, 0, 1);
        x.pan(0, -1, 0, 1);
        due("P18 left of all windows", x.ask(0), 0);
        x.redraw(0, 0, 2);
        due("P18 its last column in window 0", x.ask(0), 1);
    }

    /** "CHANGES look at LEVELS, too". */
    private static void changesOfLevels() {
        due("P18 on another level", Desk.of("Kd01va1.v-1a1.").ask(0), 2);
        due("P18 on the same level", Desk.of("Kd01va2.").ask(0), 1);
        // covered: what comes and goes below is not seen
        due("P18 below", Desk.of("Kd01v(a8)6.v-1a1.").ask(0), 0);
        due("P18 another drawing of the same columns", Desk.of("Kd01d01va1b1.").ask(0), 2);
    }

    // ---- CELS

    private static void celsOfNoneAndAll() {
        due("P18 no drawings", Desk.of("Kv-9.").ask(1), 0);
        due("P18 no levels", Desk.of(SIX).ask(1), 0);
        String sheet = "va1b1c1d1e1f1.";
        Desk x = Desk.of(SIX + sheet + sheet + sheet + sheet);
        due("P18 six drawings on four levels", x.ask(1), 24);
        due("P19 they are 24", x.judge(1, 5024), NONE);
        x.delay(3, 6);
        due("P18 six on three", x.ask(1), 18);
    }

    /** "a DRAWING that is never EXPOSED counts for none; its WIDTH, where it lies do not matter, nor THE CAMERA". */
    private static void celsNeverExposed() {
        due("P18 one of two", Desk.of("Kd01d01vb1.").ask(1), 1);
        Desk x = Desk.of("Kd01v(-9)5-2a1.");
        due("P18 at 47", x.ask(1), 1);
        x.pan(9, 9, 3, 1);
        due("P18 out of view", x.ask(1), 1);
        x.delay(0, 1);
        due("P18 beyond 47", x.ask(1), 0);
        due("P18 two that lie one upon the other", Desk.of("Kd05va1.va1.").ask(1), 2);
    }

    private static void celsAtOneFrame() {
        due("P18 one behind the other", Desk.of("Kd01va1.v-1a1.").ask(1), 1);
        due("P18 at one frame", Desk.of("Kd01va2.v-1a1.").ask(1), 2);
        // a is on both at frame 0, b at frame 2: most need not be at one frame for all
        due("P18 at unlike frames", Desk.of("Kd01d01va1-1b1.va1-1b1.").ask(1), 4);
    }

    // ---- JUDGED

    private static void judgedRows() {
        Desk x = Desk.of(JUDGED);
        due("P19 the first figures are the highest", x.judge(2, 20003000L), NONE);
        due("P19 the first that is not so", x.judge(2, 20013001L), 0);
        due("P19 the second", x.judge(2, 20003001L), 1);
        due("P19 the third", x.judge(3, 200030002001L), 2);
        due("P19 the fourth", x.judge(4, 2000300020002001L), 3);
        due("P19 all four", x.judge(4, 2000300020003000L), NONE);
        due("P19 fewer figures: the first is 0000", x.judge(2, 2000L), 0);
        due("P19 fewer figures: 0200 is no kind", x.judge(1, 200L), 0);
        due("P19 a row of 0", x.judge(4, 0L), 0);
        due("P19 nines", x.judge(4, 9999999999999999L), 0);
        due("P19 one figure more", x.judge(4, 10000000000000000L), OUTSIDE);
        due("P19 four figures for one", x.judge(1, 9999L), 0);
        due("P19 five for one", x.judge(1, 10000L), OUTSIDE);
        due("P19 eight for two", x.judge(2, 99999999L), 0);
        due("P19 nine for two", x.judge(2, 100000000L), OUTSIDE);
        due("P19 twelve for three", x.judge(3, 999999999999L), 0);
        due("P19 thirteen for three", x.judge(3, 1000000000000L), OUTSIDE);
    }

    private static void judgedDelayed() {
        Desk x = Desk.of(JUDGED);
        due("P19 to 0", x.judge(1, 1000), NONE);
        due("P19 to 9", x.judge(1, 1009), NONE);
        due("P19 the last level", x.judge(1, 1109), NONE);
        due("P19 no such level", x.judge(1, 1200), 0);
        due("P19 no level 9", x.judge(1, 1900), 0);
        due("P19 its third figure is 0", x.judge(1, 1010), 0);
        due("P19 nine later exposed", x.judge(2, 10092090L), NONE);
        due("P19 not yet", x.judge(2, 10092080L), 1);
        due("P19 of four the last", Desk.of("Kv.v.v.v.").judge(1, 1309), NONE);
        due("P19 of four none such", Desk.of("Kv.v.v.v.").judge(1, 1400), 0);
    }

    private static void judgedExposed() {
        Desk x = Desk.of("Kd01v(a8)6.v-1a1.");
        due("P19 at 00", x.judge(1, 2000), NONE);
        due("P19 at 47", x.judge(1, 2470), NONE);
        due("P19 at 48", x.judge(1, 2480), 0);
        due("P19 at 99", x.judge(1, 2990), 0);
        due("P19 nothing at 00", x.judge(1, 2001), 0);
        due("P19 at 01", x.judge(1, 2011), NONE);
        due("P19 LONG", x.judge(1, 2021), 0);
        due("P19 no such level", x.judge(1, 2002), 0);
        due("P19 no level 9", x.judge(1, 2009), 0);
    }

    private static void judgedSeen() {
        Desk x = Desk.of("Kd01d91v(a8)6.v(b8)6.");
        due("P19 window 0 at 00", x.judge(1, 3000), NONE);
        due("P19 window 9 at 00", x.judge(1, 3009), NONE);
        due("P19 window 0 at 47", x.judge(1, 3470), NONE);
        due("P19 window 9 at 47", x.judge(1, 3479), NONE);
        due("P19 window 1", x.judge(1, 3001), 0);
        due("P19 window 8", x.judge(1, 3478), 0);
        due("P19 at 48", x.judge(1, 3480), 0);
        due("P19 at 99", x.judge(1, 3999), 0);
        x.pan(9, 1, 0, 1);
        due("P19 the camera is panned", x.judge(1, 3008), NONE);
        due("P19 the camera is panned", x.judge(1, 3000), 0);
    }

    private static void judgedDrawnAnew() {
        Desk x = Desk.of(JUDGED);
        due("P19 X 0, WIDTH 1", x.judge(1, 4001), NONE);
        due("P19 X 9, WIDTH 5", x.judge(1, 4095), NONE);
        due("P19 WIDTH 0", x.judge(1, 4000), 0);
        due("P19 WIDTH 6", x.judge(1, 4006), 0);
        due("P19 WIDTH 9", x.judge(1, 4009), 0);
        due("P19 the last drawing", x.judge(1, 4101), NONE);
        due("P19 no such drawing", x.judge(1, 4201), 0);
        due("P19 no drawing 9", x.judge(1, 4901), 0);
        due("P19 of six the last", Desk.of(SIX).judge(1, 4501), NONE);
        due("P19 of six none such", Desk.of(SIX).judge(1, 4601), 0);
        due("P19 seen there then", x.judge(2, 40913009L), NONE);
        due("P19 not seen here then", x.judge(2, 40913000L), 1);
        due("P19 its last column", x.judge(2, 40553009L), NONE);
        due("P19 left of it", x.judge(2, 40553004L), 1);
    }

    private static void judgedCels() {
        Desk x = Desk.of(JUDGED);
        due("P19 CELS", x.ask(1), 2);
        due("P19 that", x.judge(1, 5002), NONE);
        due("P19 one less", x.judge(1, 5001), 0);
        due("P19 one more", x.judge(1, 5003), 0);
        due("P19 ten more", x.judge(1, 5012), 0);
        due("P19 99", x.judge(1, 5099), 0);
        due("P19 its second figure is 0", x.judge(1, 5102), 0);
        due("P19 delayed ahead", x.judge(2, 11015003L), NONE);
        due("P19 none at all", new Desk().judge(1, 5000), NONE);
        due("P19 none at all, not one", new Desk().judge(1, 5001), 0);
    }

    private static void judgedOnTop() {
        Desk x = Desk.of("Kv.v.v.v.");
        x.swap(1, 3210);
        x.swap(47, 1023);
        due("P19 at 00", x.judge(1, 6000), NONE);
        due("P19 at 00 not 3", x.judge(1, 6003), 0);
        due("P19 at 01", x.judge(1, 6013), NONE);
        due("P19 at 46", x.judge(1, 6463), NONE);
        due("P19 at 47", x.judge(1, 6471), NONE);
        due("P19 at 47 not 3", x.judge(1, 6473), 0);
        due("P19 at 48", x.judge(1, 6481), 0);
        due("P19 at 99", x.judge(1, 6991), 0);
        due("P19 no level 4", x.judge(1, 6004), 0);
        due("P19 no level 9", x.judge(1, 6009), 0);
        due("P19 BACK ahead", x.judge(2, 70006473L), NONE);
        due("P19 one level is on top of itself", Desk.of("Kv.").judge(1, 6470), NONE);
    }

    private static void judgedBack() {
        Desk x = Desk.of("Kv.v.");
        due("P19 none", x.judge(1, 7000), 0);
        for (int i = 0; i < 4; i++) x.swap(i, 10);
        due("P19 four times", x.judge(4, 7000700070007000L), NONE);
        due("P19 other figures, last", x.judge(1, 7001), 0);
        due("P19 other figures, third", x.judge(1, 7010), 0);
        due("P19 other figures, second", x.judge(1, 7100), 0);
        x.back();
        due("P19 the fourth is one too many", x.judge(4, 7000700070007000L), 3);
        x.back();
        x.back();
        due("P19 the second is one too many", x.judge(4, 7000700070007000L), 1);
        due("P29 the one is still there", x.count(3), 1);
    }

    private static void judgedKinds() {
        Desk x = Desk.of(JUDGED);
        for (int kind : new int[] {0, 8, 9}) {
            due("P19 no kind " + kind, x.judge(1, 1000 * kind), 0);
            due("P19 no kind " + kind + " behind another one", x.judge(2, 20000000L + 1000 * kind), 1);
        }
    }

    private static void judgedWithoutLevels() {
        Desk x = new Desk();
        x.swap(0, 0);
        long[] rows = {1000, 2000, 3000, 4001, 6000};
        for (long row : rows) due("P19 row " + row + " of a new object", x.judge(1, row), 0);
        due("P19 CELS are none", x.judge(1, 5000), NONE);
        due("P19 BACK", x.judge(1, 7000), NONE);
        due("P19 BACK twice", x.judge(2, 70007000L), 1);
    }

    /** "1, 4, 7 are done, from then on .. 2, 3, 5, 6 are asked as it is then". */
    private static void judgedAsItIsThen() {
        Desk x = Desk.of(JUDGED);
        due("P19 asked ahead, then delayed", x.judge(2, 20001001L), NONE);
        due("P19 delayed, then asked", x.judge(2, 10012000L), 1);
        due("P19 delayed twice, the last one stands", x.judge(3, 100110002000L), NONE);
        due("P19 delayed, then back to where it was", x.judge(4, 1009300010003000L), 1);
        x.swap(0, 10);
        due("P19 BACK, then asked", x.judge(2, 70006000L), NONE);
        due("P19 asked, then BACK", x.judge(2, 60007000L), 0);
        due("P19 what comes behind what can not be is not asked", x.judge(4, 6000900090009000L), 0);
    }

    private static void judgedForThisCallAlone() {
        Desk x = Desk.of(JUDGED);
        x.swap(0, 10);
        due("P19 all can be", x.judge(4, 1009110940957000L), NONE);
        due("P19 and once more", x.judge(4, 1009110940957000L), NONE);
        due("P19 the last can not be", x.judge(4, 1009409570007000L), 3);
        due("P7 delay of 0", x.level(0, 1), 0);
        due("P7 delay of 1", x.level(1, 1), 0);
        due("P6 X", x.drawing(0, 0), 0);
        due("P6 WIDTH", x.drawing(0, 1), 1);
        due("P29 one switch", x.count(3), 1);
        due("P16 it stands", x.order(0), 10);
        due("P29 one act", x.count(4), 1);
    }
}
