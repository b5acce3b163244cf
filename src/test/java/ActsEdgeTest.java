/** The edges of promises 9 to 14 and of what the terms say of ACTS and SWITCHES, one method for each sentence. */
public final class ActsEdgeTest {
    private static final int OUTSIDE = -2, STATE = -3, FULL = -4;
    private static final String SIX = "Kd01d01d01d01d01d01";

    private static final Edges edges = new Edges();

    private static void due(String what, long got, long want) {
        edges.due(what, got, want);
    }

    public static void main(String[] args) {
        drawnAnewFromEndToEnd();
        delayedFromEndToEnd();
        pannedFromEndToEnd();
        neverMoreThanFourSwitches();
        ordersOfAllLevels();
        withoutLevelsZero();
        backOfTheLastTold();
        neverMoreThan14Acts();
        eachKindIsAnAct();
        whatIsNoAct();
        anActThatChangesNothing();
        theLastOneIsUndone();
        undoneAtTheEdges();
        undoneBackIsLastToldAgain();
        undoneIsAsItWas();
        manyUndoneAreAsItWas();
        forgottenOnesOfEachKind();
        forgottenSwitchesStay();
        forgottenBacksStay();
        refusedIsNoAct();
        undoIsNoAct();
        edges.end();
    }

    /** "10 times X, and WIDTH, as they were". */
    private static void drawnAnewFromEndToEnd() {
        Desk x = Desk.of(SIX.substring(0, 16) + "d95v.");
        due("P9 the highest answer", x.redraw(5, 0, 1), 95);
        due("P9 the lowest answer", x.redraw(5, 9, 1), 1);
        due("P9 X 9, WIDTH 1", x.redraw(5, 0, 5), 91);
        due("P9 X 0, WIDTH 5", x.redraw(5, 4, 3), 5);
        due("P6 X", x.drawing(5, 0), 4);
        due("P6 WIDTH", x.drawing(5, 1), 3);
        due("P6 the others stay, X", x.drawing(4, 0), 0);
        due("P6 the others stay, WIDTH", x.drawing(4, 1), 1);
        due("P9 a drawing that is nowhere exposed is drawn anew, too", x.redraw(0, 9, 5), 1);
    }

    private static void delayedFromEndToEnd() {
        Desk x = Desk.of("Kd01va1.v.v.va1.");
        due("P10 0 at first", x.delay(3, 9), 0);
        due("P10 from 9", x.delay(3, 0), 9);
        due("P10 from 0", x.delay(3, 5), 0);
        due("P7 told", x.level(3, 1), 5);
        due("P7 the others stay", x.level(0, 1), 0);
        due("P15 not yet", x.exposed(3, 4), -9);
        due("P15 begins later", x.exposed(3, 5), 0);
    }

    /** "PANNED (level = 9: THE CAMERA): WHERE it is at FRAME 47 then". */
    private static void pannedFromEndToEnd() {
        Desk x = Desk.of("Kv.v.v.v.");
        int[] levels = {0, 1, 2, 3, 9};
        for (int level : levels) {
            due("P11 START -9", x.pan(level, -9, 0, 1), 991);
            due("P11 START 9", x.pan(level, 9, 0, 9), 1009);
            due("P11 BY -3", x.pan(level, 0, -3, 9), 985);
            due("P11 BY 3", x.pan(level, 0, 3, 9), 1015);
            due("P11 EVERY 1", x.pan(level, 0, 1, 1), 1047);
            due("P11 EVERY 9", x.pan(level, 0, 1, 9), 1005);
            due("P11 EVERY 8", x.pan(level, 0, 1, 8), 1005);
            due("P11 EVERY 7", x.pan(level, 0, 1, 7), 1006);
        }
        for (int level : levels) due("P8 each has its own", x.pan(level, level, 0, 1), 1000 + level);
        for (int level : levels) due("P8 each has its own", x.where(level, 47), 1000 + level);
        due("P11 the camera without levels", new Desk().pan(9, 9, 3, 1), 1150);
    }

    private static void neverMoreThanFourSwitches() {
        Desk x = Desk.of("Kv.v.");
        for (int i = 1; i <= 4; i++) due("P12 switch " + i, x.swap(47, 10), i);
        due("P12 a fifth", x.swap(47, 10), FULL);
        due("P29 four", x.count(3), 4);
        due("P13 one less", x.back(), 3);
        due("P12 room for one", x.swap(0, 1), 4);
        due("P12 a fifth again", x.swap(0, 1), FULL);
        due("P14 by undo, too", x.undo(), 5);
        due("P12 room for one", x.swap(0, 1), 4);
    }

    /** "order (not an ORDER of all LEVELS)": of all numbers up to 9999, just these. */
    private static void ordersOfAllLevels() {
        String[] reels = {"K", "Kv.", "Kv.v.", "Kv.v.v.", "Kv.v.v.v."};
        int[] many = {1, 1, 2, 6, 24};
        for (int levels = 0; levels <= 4; levels++) {
            int taken = 0;
            Desk x = Desk.of(reels[levels]);
            for (int order = -50; order < 43300; order++) {
                if (x.calls() > 500) x = Desk.of(reels[levels]);
                int got = x.swap(0, order);
                boolean right = isOrder(order, levels);
                due("P12 order " + order + " of " + levels, got, right ? 1 : OUTSIDE);
                if (got == 1) {
                    taken++;
                    due("P16 as told", x.order(0), order);
                    x.back();
                }
            }
            due("P12 orders of " + levels, taken, many[levels]);
        }
    }

    private static boolean isOrder(int order, int levels) {
        if (order < 0) return false;
        String figures = order == 0 && levels == 0 ? "" : Integer.toString(order);
        if (figures.length() > levels) return false;
        figures = "0".repeat(levels - figures.length()) + figures;
        for (int level = 0; level < levels; level++) {
            if (figures.indexOf('0' + level) < 0) return false;
        }
        return true;
    }

    private static void withoutLevelsZero() {
        Desk x = new Desk();
        for (int i = 1; i <= 4; i++) due("P12 order 0", x.swap(12 * (i - 1), 0), i);
        due("P12 a fifth", x.swap(0, 0), FULL);
        for (int f = 0; f < 48; f++) due("P16 0", x.order(f), 0);
        for (int i = 3; i >= 0; i--) due("P13 back", x.back(), i);
        due("P13 none", x.back(), STATE);
        due("P29 acts", x.count(4), 8);
    }

    /** "BACK: the last told SWITCH is gone", wherever its FRAME is. */
    private static void backOfTheLastTold() {
        Desk x = Desk.of("Kv.v.v.");
        x.swap(30, 210);
        x.swap(10, 102);
        x.swap(30, 21);
        x.swap(0, 201);
        due("P13 three left", x.back(), 3);
        due("P16 at 0 as at first", x.order(0), 12);
        due("P16 at 30 the last told", x.order(30), 21);
        due("P13 two left", x.back(), 2);
        due("P16 at 30 the one told ahead of it", x.order(30), 210);
        due("P13 one left", x.back(), 1);
        due("P16 at 29 as at first", x.order(29), 12);
        due("P16 at 47", x.order(47), 210);
        due("P13 none left", x.back(), 0);
        due("P16 as at first", x.order(47), 12);
        due("P13 none", x.back(), STATE);
    }

    // ---- ACTS

    /** "never more than 14; if it has 14, the first one is forgotten ahead of the next". */
    private static void neverMoreThan14Acts() {
        for (int acts = 13; acts <= 16; acts++) {
            Desk x = Desk.of("Kd01va1.");
            for (int i = 1; i <= acts; i++) {
                x.redraw(0, i % 10, 1);
                due("P29 acts", x.count(4), Math.min(14, i));
            }
            int undone = 0;
            while (x.undo() >= 0) undone++;
            due("P14 as many undone of " + acts, undone, Math.min(14, acts));
            due("P14 as it was ahead of these", x.drawing(0, 0), Math.max(0, acts - 14));
        }
    }

    /** "ACTS (these five)". */
    private static void eachKindIsAnAct() {
        Desk x = Desk.of("Kd01va1.v.");
        x.redraw(0, 1, 1);
        due("P29 DRAWN ANEW", x.count(4), 1);
        x.delay(0, 1);
        due("P29 DELAYED", x.count(4), 2);
        x.pan(0, 1, 1, 1);
        due("P29 PANNED", x.count(4), 3);
        x.pan(9, 1, 1, 1);
        due("P29 PANNED, the camera", x.count(4), 4);
        x.swap(0, 10);
        due("P29 SWITCHED", x.count(4), 5);
        x.back();
        due("P29 BACK", x.count(4), 6);
    }

    private static void whatIsNoAct() {
        Desk x = Desk.of("Kd01va1.v.");
        x.write('v');
        x.wipe();
        x.fault();
        x.look(0, 0);
        x.ask(0);
        x.level(0, 3);
        x.judge(4, 1009409510051101L);
        x.see(0, 0, 0);
        x.which();
        x.unsee();
        x.seed(3);
        x.looks(3);
        x.keep(0);
        due("P29 no act", x.count(4), 0);
        x.delay(0, 1);
        x.keep(1);
        due("P29 keeping leaves the row", x.count(4), 1);
        due("P14 the delay is undone", x.undo(), 0);
        due("P7 the delay", x.level(0, 1), 0);
    }

    /** "Each that is not refused is an ACT": also one that tells what is so already. */
    private static void anActThatChangesNothing() {
        Desk x = Desk.of("Kd01va1.");
        x.redraw(0, 0, 1);
        x.delay(0, 0);
        x.pan(0, 0, 0, 1);
        x.pan(9, 0, 0, 1);
        x.swap(0, 0);
        due("P29 five acts", x.count(4), 5);
        for (int i = 4; i >= 0; i--) due("P14 undone", x.undo(), i);
        due("P14 none", x.undo(), STATE);
        due("P29 no switch", x.count(3), 0);
    }

    private static void theLastOneIsUndone() {
        Desk x = Desk.of("Kd42va1.v.");
        x.redraw(0, 9, 5);
        x.redraw(0, 1, 1);
        x.delay(1, 3);
        x.delay(1, 8);
        x.pan(1, 2, 3, 4);
        x.pan(1, -2, -3, 5);
        x.pan(9, 6, 1, 7);
        x.pan(9, -6, -1, 8);
        x.swap(5, 10);
        x.back();
        due("P14 BACK", x.undo(), 9);
        due("P16 the switch is there", x.order(5), 10);
        due("P16 from its frame on", x.order(4), 1);
        due("P14 SWITCHED", x.undo(), 8);
        due("P29 no switch", x.count(3), 0);
        due("P14 the camera's second pan", x.undo(), 7);
        due("P8 START 6, BY 1, EVERY 7", x.where(9, 47), 1012);
        due("P8 EVERY 7", x.where(9, 7), 1007);
        due("P14 the camera's first pan", x.undo(), 6);
        due("P8 as at first", x.where(9, 47), 1000);
        due("P14 the level's second pan", x.undo(), 5);
        due("P8 START 2, BY 3, EVERY 4", x.where(1, 47), 1035);
        due("P14 the level's first pan", x.undo(), 4);
        due("P8 as at first", x.where(1, 47), 1000);
        due("P14 the second delay", x.undo(), 3);
        due("P7 the first delay", x.level(1, 1), 3);
        due("P14 the first delay", x.undo(), 2);
        due("P7 as at first", x.level(1, 1), 0);
        due("P14 drawn anew twice", x.undo(), 1);
        due("P6 X", x.drawing(0, 0), 9);
        due("P6 WIDTH", x.drawing(0, 1), 5);
        due("P14 drawn anew once", x.undo(), 0);
        due("P6 X as told", x.drawing(0, 0), 4);
        due("P6 WIDTH as told", x.drawing(0, 1), 2);
        due("P14 there is none", x.undo(), STATE);
    }

    private static void undoneAtTheEdges() {
        Desk x = Desk.of(SIX + "v.v.v.v.");
        x.pan(9, -9, -3, 9);
        x.pan(3, 9, 3, 1);
        x.redraw(5, 9, 5);
        x.delay(3, 9);
        x.pan(9, 9, 3, 1);
        x.pan(3, -9, -3, 9);
        x.redraw(5, 0, 1);
        x.delay(3, 0);
        due("P14 delay", x.undo(), 7);
        due("P7 9", x.level(3, 1), 9);
        due("P14 drawing", x.undo(), 6);
        due("P9 9 and 5", x.redraw(5, 1, 1), 95);
        due("P14 the one that asked", x.undo(), 6);
        due("P14 pan", x.undo(), 5);
        due("P8 9, 3, 1", x.where(3, 47), 1150);
        due("P14 pan of the camera", x.undo(), 4);
        due("P8 -9, -3, 9", x.where(9, 47), 976);
        due("P8 -9, -3, 9 at 0", x.where(9, 0), 991);
    }

    /** A BACK that is undone brings its SWITCH to where it was: the last told. */
    private static void undoneBackIsLastToldAgain() {
        Desk x = Desk.of("Kv.v.v.");
        x.swap(5, 210);
        x.swap(5, 102);
        x.swap(5, 201);
        x.swap(0, 120);
        x.back();
        x.back();
        due("P14 one BACK undone", x.undo(), 5);
        due("P29 three", x.count(3), 3);
        due("P16 the last told of like ones", x.order(5), 201);
        due("P16 ahead of it", x.order(4), 12);
        due("P14 the other one undone", x.undo(), 4);
        due("P29 four", x.count(3), 4);
        due("P16 from 0 on", x.order(4), 120);
        due("P12 full", x.swap(0, 12), FULL);
        due("P13 the last told goes first", x.back(), 3);
        due("P16 ahead of it", x.order(4), 12);
    }

    /** An ACT and its undoing leave all as it was, the other ACTS in the row, too. */
    private static void undoneIsAsItWas() {
        for (int drawing = 0; drawing < 6; drawing++) {
            int d = drawing;
            undone("P14 redraw " + d, x -> x.redraw(d, 7, 4));
        }
        for (int level = 0; level < 4; level++) {
            int l = level;
            undone("P14 delay " + l, x -> x.delay(l, 9));
            undone("P14 pan " + l, x -> x.pan(l, 9, 3, 1));
        }
        undone("P14 pan of the camera", x -> x.pan(9, -9, -3, 9));
        undone("P14 swap at 0", x -> x.swap(0, 2013));
        undone("P14 swap at 47", x -> x.swap(47, 2013));
        undone("P14 back", x -> x.back());
    }

    private static void undone(String what, Edges.Call act) {
        edges.unchanged(what, Edges.SOME_ACTS, x -> {
            edges.holds(what + " is done", act.on(x) >= 0);
            return x.undo();
        }, 5);
    }

    /** Nine ACTS more make 14, and all nine can be undone. */
    private static void manyUndoneAreAsItWas() {
        edges.unchanged("P14 nine undone", Edges.SOME_ACTS, x -> {
            x.swap(3, 2013);
            x.back();
            x.back();
            x.redraw(2, 0, 5);
            x.delay(2, 0);
            x.pan(2, 0, 0, 1);
            x.pan(9, 0, 0, 1);
            x.swap(5, 132);
            x.delay(2, 9);
            edges.due("P29 14", x.count(4), 14);
            for (int i = 0; i < 8; i++) x.undo();
            return x.undo();
        }, 5);
    }

    /** Of 20 acts of all kinds the last 14 are undone one by one, each to what was ahead of it. */
    private static void forgottenOnesOfEachKind() {
        Desk x = Desk.of("Kd01d01va1.v.");
        int[][] told = new int[21][];
        told[0] = standing(x);
        for (int i = 1; i <= 20; i++) {
            switch (i % 5) {
                case 0: x.redraw(i % 2, i % 10, 1 + i % 4); break;
                case 1: x.delay(i % 2, i % 9 + 1); break;
                case 2: x.pan(i % 2 == 0 ? 9 : 0, i % 10, 1, 1 + i % 3); break;
                case 3: x.swap(i, i % 2 == 0 ? 10 : 1); break;
                default: x.pan(1, -(i % 10), -1, 1 + i % 3); break;
            }
            told[i] = standing(x);
        }
        for (int i = 19; i >= 6; i--) {
            due("P14 left", x.undo(), i - 6);
            int[] now = standing(x);
            for (int k = 0; k < now.length; k++) due("P14 number " + k + " ahead of act " + (i + 1), now[k], told[i][k]);
        }
        due("P14 six are forgotten", x.undo(), STATE);
    }

    private static int[] standing(Desk x) {
        return new int[] {x.drawing(0, 0), x.drawing(0, 1), x.drawing(1, 0), x.drawing(1, 1), x.level(0, 1), x.level(1, 1),
            x.where(0, 47), x.where(1, 47), x.where(9, 47), x.count(3), x.order(47)};
    }

    private static void forgottenSwitchesStay() {
        Desk x = Desk.of("Kv.v.");
        for (int i = 0; i < 4; i++) x.swap(i, i % 2 == 0 ? 10 : 1);
        for (int i = 0; i < 12; i++) x.delay(0, i % 10);
        for (int i = 13; i >= 0; i--) due("P14 undone", x.undo(), i);
        due("P14 none", x.undo(), STATE);
        due("P29 two of four are forgotten, and stay", x.count(3), 2);
        due("P16 the first", x.order(0), 10);
        due("P16 the second", x.order(47), 1);
    }

    private static void forgottenBacksStay() {
        Desk x = Desk.of("Kv.v.");
        x.swap(0, 10);
        x.swap(7, 1);
        x.back();
        x.back();
        for (int i = 0; i < 12; i++) x.delay(1, 9 - i % 10);
        for (int i = 13; i >= 0; i--) due("P14 undone", x.undo(), i);
        due("P29 both are there again", x.count(3), 2);
        due("P16 the first", x.order(6), 10);
        due("P16 the second", x.order(7), 1);
        due("P14 their telling is forgotten", x.undo(), STATE);
    }

    private static void refusedIsNoAct() {
        Desk x = Desk.of("Kd01va1.");
        for (int i = 0; i < 14; i++) x.delay(0, (i + 1) % 10);
        x.redraw(0, 10, 1);
        x.redraw(1, 0, 1);
        x.delay(0, 10);
        x.delay(1, 0);
        x.pan(0, 10, 0, 1);
        x.pan(9, 0, 0, 0);
        x.swap(48, 0);
        x.back();
        due("P29 14 acts", x.count(4), 14);
        for (int i = 13; i >= 0; i--) due("P14 undone", x.undo(), i);
        due("P7 the first one was not forgotten", x.level(0, 1), 0);
    }

    private static void undoIsNoAct() {
        Desk x = Desk.of("Kd01va1.");
        x.delay(0, 3);
        x.delay(0, 6);
        due("P14 one left", x.undo(), 1);
        due("P29 one left", x.count(4), 1);
        x.delay(0, 9);
        due("P29 two", x.count(4), 2);
        due("P14 one left", x.undo(), 1);
        due("P7 3", x.level(0, 1), 3);
        due("P14 none left", x.undo(), 0);
        due("P7 0", x.level(0, 1), 0);
    }
}
