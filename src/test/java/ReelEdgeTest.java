/** The edges of the terms' part 1 that a text tells of, and of promises 1 to 8, one method for each sentence. */
public final class ReelEdgeTest {
    private static final int UNKNOWN = -1, STATE = -3, FULL = -4, NONE = -9;
    private static final String SIX = "Kd01d01d01d01d01d01";
    private static final String FIGURES = "0123456789";

    private static final Edges edges = new Edges();

    private static void due(String what, long got, long want) {
        edges.due(what, got, want);
    }

    public static void main(String[] args) {
        aNewObjectHasNothing();
        aNewObjectSeesNothing();
        neverMoreThan80Letters();
        lettersThatCanCome();
        lettersThatCanComeInItems();
        emptyReels();
        neverMoreThanSixDrawings();
        neverMoreThanFourLevels();
        onceALevelCameNoDrawingComes();
        noDeeperThanTwo();
        noneInItsOwn();
        whateverCameBehind();
        itsLengthSetAside();
        onlyNotAtItsEnd();
        readAnewEachTime();
        beyond48IsCutOff();
        beyond48WithinLoops();
        aLevelBehindTheCut();
        wipeEmptiesTheTextAlone();
        theTextStaysAsItIs();
        asAtFirstByAReel();
        eachOneAsAtFirstByAReel();
        seenAndSeedStay();
        anotherReelIsWhole();
        drawingOfSix();
        mostLevelsOfADrawing();
        longAndDelay();
        shortOfOneDrawing();
        shortOfLoops();
        shortNoDeeperThanTwo();
        shortOfHoldsWithin();
        shortTellsOfJustTheFrames();
        shortOfNothing();
        bestOfLikeOnes();
        bestDelayIsNineAtMost();
        whereIsCut();
        whereIsAtItsFarthest();
        the512thCall();
        edges.end();
    }

    /** Fault of a text, each time by a new object. */
    private static int faultOf(String text) {
        Desk x = new Desk();
        x.more(text);
        return x.fault();
    }

    private static void dueFault(String text, int want) {
        due("P4 fault of " + text, faultOf(text), want);
        Desk x = new Desk();
        x.more(text);
        due("P5 a fault is STATE: " + text, x.reel() == STATE ? 1 : 0, want == NONE ? 0 : 1);
    }

    /** Of all letters 0 to 255 just these can come behind a text. */
    private static void dueNext(String text, String letters) {
        StringBuilder found = new StringBuilder();
        for (int letter = 0; letter < 256; letter++) {
            if (faultOf(text + (char) letter) != text.length()) found.append((char) letter);
        }
        edges.holds("behind " + text + " can come " + letters + ", not " + found, found.toString().equals(letters));
    }

    private static void dueShort(String items, int want) {
        due("P7 SHORT of " + items, Desk.of("Kd01d01d01v" + items + ".").level(0, 2), want);
    }

    private static void dueLong(String items, int want) {
        due("P7 LONG of " + items, Desk.of("Kd01d01d01v" + items + ".").level(0, 0), want);
    }

    // ---- "No drawings, no levels."; "none at first"; "0 at first"; "0, 0, 1 at first"

    private static void aNewObjectHasNothing() {
        Desk x = new Desk();
        for (int what = 0; what < 6; what++) due("P1 count " + what, x.count(what), 0);
        for (int i = -1; i < 7; i++) {
            due("P1 drawing " + i, x.drawing(i, 0), UNKNOWN);
            due("P1 level " + i, x.level(i, 0), UNKNOWN);
        }
        for (int f = 0; f < 48; f++) {
            due("P1 camera at " + f, x.where(9, f), 1000);
            due("P1 order at " + f, x.order(f), 0);
        }
        due("P1 fault", x.fault(), 0);
        due("P1 reel", x.reel(), STATE);
        due("P1 undo", x.undo(), STATE);
        due("P1 back", x.back(), STATE);
        due("P1 changes", x.ask(0), 0);
        due("P1 cels", x.ask(1), 0);
        due("P1 which", x.which(), 0);
        due("P1 unsee", x.unsee(), 0);
        due("P1 wipe", x.wipe(), 0);
        due("P1 again 0", x.again(0), STATE);
        due("P1 again 1", x.again(1), STATE);
        due("P1 seed", x.seed(1), 0);
    }

    private static void aNewObjectSeesNothing() {
        Desk x = new Desk();
        for (int f = 0; f < 48; f++) {
            for (int c = 0; c < 10; c++) due("SEEN without LEVELS is NONE everywhere", x.look(f, c), NONE);
        }
        due("P26 no look sees anything", x.looks(40), 0);
        due("P24 nothing to lose, above", x.lost(0, 0, 0, true), 0);
        due("P24 nothing to lose, below", x.lost(0, 0, 0, false), 1);
    }

    // ---- THE TEXT

    private static void neverMoreThan80Letters() {
        Desk x = new Desk();
        for (int i = 1; i <= 80; i++) due("P2 letter " + i, x.write(i % 2 == 0 ? 0 : 255), i);
        due("P2 the 81st", x.write(0), FULL);
        due("P29 80 letters", x.count(0), 80);
        due("P3 a full text is wiped", x.wipe(), 80);
        for (int i = 1; i <= 80; i++) due("P2 letter " + i + " again", x.write('K'), i);
        due("P2 the 81st again", x.write('K'), FULL);
        due("P4 the first of 80", x.fault(), 1);
    }

    private static void lettersThatCanCome() {
        dueNext("", "K");
        dueNext("K", "dv");
        dueNext("Kd", FIGURES);
        dueNext("Kd0", "12345");
        dueNext("Kd9", "12345");
        dueNext("Kd95", "dv");
        dueNext(SIX.substring(0, 16), "dv");
        dueNext(SIX, "v");
        dueNext("Kv.", "v");
        dueNext("Kd01v.", "v");
        dueNext("Kv.v.v.", "v");
        dueNext("Kv.v.v.v.", "");
        dueNext(SIX + "v.v.v.v.", "");
    }

    private static void lettersThatCanComeInItems() {
        dueNext("Kv", "(-.");
        dueNext("Kd01v", "(-.a");
        dueNext("Kd01d01v", "(-.ab");
        dueNext(SIX + "v", "(-.abcdef");
        dueNext(SIX + "v.v.v.v", "(-.abcdef");
        dueNext("Kd01va", FIGURES.substring(1));
        dueNext(SIX + "vf", FIGURES.substring(1));
        dueNext("Kv-", FIGURES.substring(1));
        dueNext("Kv-1", "(-.");
        dueNext("Kv-9", "(-.");
        dueNext("Kd01v(", "(-a");
        dueNext("Kd01v((", "-a");
        dueNext("Kd01v(a1", "()-a");
        dueNext("Kd01v((a1", ")-a");
        dueNext("Kd01v((a1)", FIGURES.substring(2));
        dueNext("Kd01v((a1)2", "()-a");
        dueNext("Kd01v(a1(a1)9", "()-a");
        dueNext("Kd01v(a1)", FIGURES.substring(2));
        dueNext("Kd01v((a1)2)2", "(-.a");
    }

    /** "DRAWINGS, none or more"; "LEVELS, none or more"; "ITEMS, none or more". */
    private static void emptyReels() {
        dueFault("", 0);
        dueFault("K", NONE);
        dueFault("Kd01", NONE);
        dueFault("Kv.", NONE);
        dueFault("Kv.v.v.v.", NONE);
        due("P5 no levels", Desk.of("K").count(2), 0);
        due("P5 one level without items", Desk.of("Kv.").level(0, 0), 0);
        due("P5 no drawings", Desk.of("Kv.").count(1), 0);
    }

    private static void neverMoreThanSixDrawings() {
        dueFault(SIX, NONE);
        dueFault(SIX + "d", 19);
        dueFault(SIX + "d01", 19);
        dueFault(SIX + "vf1.", NONE);
        dueFault(SIX + "vg1.", 20);
        dueFault(SIX.substring(0, 16) + "ve1.", NONE);
        dueFault(SIX.substring(0, 16) + "vf1.", 17);
        dueFault("Kva1.", 2);
        dueFault("Kv(a1)2.", 3);
    }

    private static void neverMoreThanFourLevels() {
        dueFault("Kv-1.v-1.v-1.v-1.", NONE);
        dueFault("Kv-1.v-1.v-1.v-1.v", 17);
        dueFault("Kv.v.v.v.v.", 9);
        due("P5 four levels", Desk.of("Kv.v.v.v.").count(2), 4);
    }

    private static void onceALevelCameNoDrawingComes() {
        dueFault("Kv.d01", 3);
        dueFault("Kd01v.d01", 6);
        // within a sheet d is the fourth drawing
        dueFault("Kd01d01d01vd1.", 11);
        dueFault("Kd01d01d01d01vd1.", NONE);
        dueFault("Kd01d01d01d01vd1.d01", 17);
    }

    private static void noDeeperThanTwo() {
        dueFault("Kv((-1)2)2.", NONE);
        dueFault("Kv(((-1)2)2)2.", 4);
        dueFault("Kv(-1(-1(-1)2)2)2.", 8);
        // what is closed is not open any more
        dueFault("Kv((-1)2(-1)2(-1)2)2(-1)2((-1)2)2.", NONE);
        dueFault("Kv((-1)2(-1(", 11);
    }

    /** "a ) with no ITEM ahead of it in its own ()". */
    private static void noneInItsOwn() {
        dueFault("Kv()2.", 3);
        dueFault("Kv-1()2.", 5);
        dueFault("Kv(-1()2)2.", 6);
        dueFault("Kv(()2)2.", 4);
        dueFault("Kv)", 2);
        dueFault("Kv-1)2.", 4);
        dueFault("Kv(-1)2)2.", 7);
        dueFault("Kv(.", 3);
        dueFault("Kv(-1.", 5);
        dueFault("Kv((-1)2.", 8);
    }

    private static void whateverCameBehind() {
        String[] behind = {"", "K", "Kv.", ".", "1", "v.", "K".repeat(60)};
        for (String more : behind) {
            dueFault("k" + more, 0);
            dueFault("Kd06" + more, 3);
            dueFault("Kvb" + more, 2);
            dueFault("Kv.v.v.v.v" + more, 9);
        }
    }

    /** "its length set aside": 80 letters that could go on are only not at their end. */
    private static void itsLengthSetAside() {
        dueFault("Kv" + "-1".repeat(39), 80);
        dueFault("Kv-1" + "(-1)2".repeat(15) + "(", 80);
        dueFault("Kv" + "-1".repeat(38) + ".v", 80);
        dueFault("Kv" + "-1".repeat(38) + "-", 79);
        dueFault(Edges.LONGEST, NONE);
        dueFault("Kv" + "-1".repeat(38) + "-x", 79);
    }

    private static void onlyNotAtItsEnd() {
        String text = "Kd95v(a1(-2)3)4a5.v";
        int[] want = {0, NONE, 2, 3, NONE, 5, 6, 7, 8, 9, 10, 11, 12, 13, 14, 15, 16, 17, NONE, 19};
        for (int i = 0; i <= text.length(); i++) dueFault(text.substring(0, i), want[i]);
    }

    /** What an earlier text left open is not open in the next one. */
    private static void readAnewEachTime() {
        Desk x = new Desk();
        String[] texts = {"Kd01v((a1", "Kv-1.", "Kd01v(", "Kv((-1)2)2.", "Kv.v.v.v.v", "Kv.v.v.v.", "Kd0", "Kd95va1.", "Kv(-", "Kva1."};
        int[] want = {9, NONE, 6, NONE, 9, NONE, 3, NONE, 4, 2};
        for (int i = 0; i < texts.length; i++) {
            x.tell(texts[i]);
            due("P4 behind another text: " + texts[i], x.fault(), want[i]);
            due("P4 asked twice: " + texts[i], x.fault(), want[i]);
            due("P5 " + texts[i], x.reel() == STATE ? 1 : 0, want[i] == NONE ? 0 : 1);
        }
        due("P29 the last reel", x.count(2), 1);
        due("P29 the last reel", x.count(1), 1);
        due("P6 the last reel", x.drawing(0, 0), 9);
    }

    // ---- "what is beyond 48 is cut off"

    private static void beyond48IsCutOff() {
        dueLong("", 0);
        dueLong("a1", 1);
        dueLong("a9a9a9a9a9a2", 47);
        dueLong("a9a9a9a9a9a3", 48);
        dueLong("a9a9a9a9a9a4", 48);
        dueLong("-9-9-9-9-9-9-9", 48);
        Desk x = Desk.of("Kd01d01va9a9a9a9a9a2b9.");
        due("P15 at 46", x.exposed(0, 46), 0);
        due("P15 at 47, cut in an item", x.exposed(0, 47), 1);
        due("P6 b is exposed", x.drawing(1, 2), 1);
        Desk y = Desk.of("Kd01d01va9a9a9a9a9a3b9.");
        due("P15 at 47", y.exposed(0, 47), 0);
        due("P6 b is cut off", y.drawing(1, 2), 0);
    }

    private static void beyond48WithinLoops() {
        dueLong("(a8)6", 48);
        dueLong("(a7)7", 48);
        dueLong("(a5)9", 45);
        dueLong("((a9)9)9", 48);
        dueLong("((a9b9)9c9)9(a9)9", 48);
        dueLong("((a1b1)4)6", 48);
        dueLong("((a1b1)4)5a7", 47);
        Desk x = Desk.of("Kd01d01d01v(a9b9)3c1.");
        int[] frames = {0, 8, 9, 17, 18, 44, 45, 47};
        int[] want = {0, 0, 1, 1, 0, 0, 1, 1};
        for (int i = 0; i < frames.length; i++) due("P15 cut in a loop at " + frames[i], x.exposed(0, frames[i]), want[i]);
        due("P6 c is cut off", x.drawing(2, 2), 0);
        Desk y = Desk.of("Kd01d01d01v((a9b1)9c1)9.");
        due("P6 c within the loop is cut off", y.drawing(2, 2), 0);
        due("P15 at 47", y.exposed(0, 47), 0);
        due("P15 at 39", y.exposed(0, 39), 1);
    }

    private static void aLevelBehindTheCut() {
        Desk x = Desk.of("Kd01d01v((a9)9)9.v(b1)2.v((a9)9)9.v.");
        int[] want = {48, 2, 48, 0};
        for (int level = 0; level < 4; level++) due("P7 LONG of " + level, x.level(level, 0), want[level]);
        due("P15 begins anew", x.exposed(1, 0), 1);
        due("P15 ends", x.exposed(1, 2), NONE);
    }

    // ---- wipe, reel

    private static void wipeEmptiesTheTextAlone() {
        Desk x = Desk.of("Kd01va1.");
        x.delay(0, 2);
        x.see(0, 0, 0);
        x.keep(0);
        due("P3 how long it was", x.wipe(), 8);
        due("P3 it is empty", x.wipe(), 0);
        int[] want = {0, 1, 1, 0, 1, 1};
        for (int what = 0; what < 6; what++) due("P3 count " + what, x.count(what), want[what]);
        due("P3 exposed as ahead", x.exposed(0, 2), 0);
        due("P3 kept as ahead", x.again(0), 0);
        due("P4 an empty text", x.fault(), 0);
        due("P5 an empty text", x.reel(), STATE);
    }

    private static void theTextStaysAsItIs() {
        Desk x = Desk.of("Kd01va1.");
        due("P5 letters", x.count(0), 8);
        due("P5 no fault", x.fault(), NONE);
        due("P5 once more", x.reel(), 1);
        x.more("v.");
        due("P5 the reel is not the text", x.count(2), 1);
        due("P5 text that went on", x.reel(), 2);
        x.write('x');
        due("P5 refused", x.reel(), STATE);
        due("P5 levels stay", x.count(2), 2);
    }

    private static void asAtFirstByAReel() {
        Desk x = Desk.of("Kd03d22va4b2.v-1b3a2.");
        x.redraw(0, 9, 5);
        x.delay(1, 4);
        x.pan(0, 1, 1, 1);
        x.pan(9, 1, 1, 2);
        for (int i = 0; i < 4; i++) x.swap(i, 10);
        x.keep(0);
        x.keep(1);
        due("P5 levels", x.reel(), 2);
        due("P5 X as told", x.drawing(0, 0), 0);
        due("P5 WIDTH as told", x.drawing(0, 1), 3);
        due("P5 DELAY as at first", x.level(1, 1), 0);
        due("P5 PAN as at first", x.where(0, 47), 1000);
        due("P5 the camera's as at first", x.where(9, 47), 1000);
        due("P5 no SWITCHES", x.count(3), 0);
        due("P5 order as at first", x.order(47), 1);
        due("P5 no ACTS", x.count(4), 0);
        due("P5 nothing to undo", x.undo(), STATE);
        due("P5 what was kept is gone, 0", x.again(0), STATE);
        due("P5 what was kept is gone, 1", x.again(1), STATE);
    }

    private static void eachOneAsAtFirstByAReel() {
        Desk x = Desk.of(SIX + "v.v.v.v.");
        for (int d = 0; d < 6; d++) x.redraw(d, 3 + d, 2 + d % 4);
        for (int level = 0; level < 4; level++) {
            x.delay(level, 9 - level);
            x.pan(level, level - 9, 3, 1);
        }
        x.pan(9, 4, 1, 1);
        due("P5 levels", x.reel(), 4);
        for (int d = 0; d < 6; d++) due("P5 X and WIDTH of " + d, x.redraw(d, 0, 1), 1);
        for (int level = 0; level < 4; level++) {
            due("P5 DELAY of " + level, x.level(level, 1), 0);
            due("P5 PAN of " + level + " at 0", x.where(level, 0), 1000);
            due("P5 PAN of " + level + " at 47", x.where(level, 47), 1000);
        }
        due("P5 the camera's at 0", x.where(9, 0), 1000);
        due("P5 the camera's at 47", x.where(9, 47), 1000);
    }

    private static void seenAndSeedStay() {
        Desk x = Desk.of("Kd01va1.");
        for (int i = 0; i < 6; i++) x.see(i, 0, NONE);
        x.seed(-5);
        x.tell("K");
        due("P5 no levels", x.reel(), 0);
        due("P5 SEEN stay", x.count(5), 6);
        due("P5 still full", x.see(0, 0, 0), FULL);
        due("P5 THE SEED stays", x.seed(0), -5);
        due("P22 no drawing", x.which(), 0);
        x.tell("Kd01va1.");
        x.reel();
        due("P22 a rubbed out", x.which(), 1);
    }

    private static void anotherReelIsWhole() {
        Desk x = Desk.of(SIX + "vf9.va9.vb9.vc9.");
        x.tell("Kd92v.");
        due("P5 one level", x.reel(), 1);
        due("P6 the one drawing", x.drawing(0, 0), 9);
        due("P6 no other", x.drawing(1, 0), UNKNOWN);
        due("P7 the one level is empty", x.level(0, 0), 0);
        due("P7 SHORT of it", x.level(0, 2), 0);
        due("P15 nothing", x.exposed(0, 0), NONE);
        due("P7 no other", x.level(1, 0), UNKNOWN);
        due("P16 order of one", x.order(0), 0);
        due("P18 no cels", x.ask(1), 0);
        x.tell("Kd01va1.vb1.");
        due("P5 a fault leaves it", x.reel(), STATE);
        due("P6 the drawing as ahead", x.drawing(0, 1), 2);
    }

    // ---- drawing, level

    private static void drawingOfSix() {
        Desk x = Desk.of("Kd01d95d92d05d11d83v.");
        int[] xs = {0, 9, 9, 0, 1, 8};
        int[] widths = {1, 5, 2, 5, 1, 3};
        for (int d = 0; d < 6; d++) {
            due("P6 X of " + d, x.drawing(d, 0), xs[d]);
            due("P6 WIDTH of " + d, x.drawing(d, 1), widths[d]);
            due("P6 never exposed " + d, x.drawing(d, 2), 0);
        }
    }

    private static void mostLevelsOfADrawing() {
        Desk x = Desk.of("Kd01va1.va1.va1.va1.");
        due("P6 four levels at one frame", x.drawing(0, 2), 4);
        for (int level = 1; level < 4; level++) {
            x.delay(level, level);
            due("P6 one less", x.drawing(0, 2), 4 - level);
        }
        // the last frame counts, one beyond it does not
        Desk y = Desk.of("Kd01v(-9)5-2a1.v(-9)5-1a1.");
        due("P6 at frames 47 and 46", y.drawing(0, 2), 1);
        y.delay(1, 1);
        due("P6 both at frame 47", y.drawing(0, 2), 2);
        y.delay(1, 2);
        due("P6 one is beyond 47", y.drawing(0, 2), 1);
        y.delay(0, 1);
        due("P6 both are beyond 47", y.drawing(0, 2), 0);
    }

    private static void longAndDelay() {
        Desk x = Desk.of("Kd01v(a8)6.v.");
        due("P7 DELAY at first", x.level(0, 1), 0);
        x.delay(0, 9);
        x.delay(1, 1);
        due("P7 DELAY 9", x.level(0, 1), 9);
        due("P7 DELAY of an empty one", x.level(1, 1), 1);
        due("P7 LONG does not hang on DELAY", x.level(0, 0), 48);
        due("P7 nor does SHORT", x.level(0, 2), 5);
    }

    /** "a figure is 9 at most (ten FRAMES of one DRAWING are two ITEMS at least, or a ( )". */
    private static void shortOfOneDrawing() {
        dueShort("", 0);
        dueShort("a1", 2);
        dueShort("a9", 2);
        dueShort("a9a1", 4);
        dueShort("a9a9", 4);
        // 19 is no product of two figures: a9a9a1
        dueShort("a9a9a1", 6);
        // (a5)4
        dueShort("a9a9a2", 5);
        dueShort("a9a9a9", 5);
        // (a9)5, (a9)5a1, (a9)5a2, (a8)6
        dueShort("a9a9a9a9a9", 5);
        dueShort("a9a9a9a9a9a1", 7);
        dueShort("a9a9a9a9a9a2", 7);
        dueShort("a9a9a9a9a9a3", 5);
        dueShort("a9a9a9a9a9a4", 5);
    }

    /** "a figure k (2 to 9)". */
    private static void shortOfLoops() {
        // twice is taken only where it helps: (a1b1)2 is 7, a1b1a1b1 is 8
        dueShort("a1b1", 4);
        dueShort("a1b1a1", 6);
        dueShort("a1b1a1b1", 7);
        dueShort("a1a1a1", 2);
        dueShort("(a1b1)9", 7);
        // ((a1b1)5)2, as no k is 10
        dueShort("(a1b1)9a1b1", 10);
        // (a1b1)9(a1b1)2, as 11 is no product
        dueShort("(a1b1)9(a1b1)2", 14);
        // ((a1b1)4)6
        dueShort("(a1b1)8(a1b1)8(a1b1)8", 10);
        // an item is cut in two where that helps: (a1b2)3b1, not a1b2a1b2a1b3
        dueShort("a1b2a1b2a1b3", 9);
    }

    /** "( no deeper than 2". */
    private static void shortNoDeeperThanTwo() {
        // ((a1b1)3c1)2
        dueShort("a1b1a1b1a1b1c1a1b1a1b1a1b1c1", 12);
        // ((a1b1a1b1c1)2-1)2, as (((a1b1)2c1)2-1)2 with 17 letters lies too deep
        dueShort("((a1b1)2c1(a1b1)2c1-1)2", 18);
    }

    /** Items within a ( within a ( hold for 9 FRAMES at most, too. */
    private static void shortOfHoldsWithin() {
        // ((a2b1)3c1)2
        dueShort("((a2b1)3c1)2", 12);
        dueShort("a2b1a2b1a2b1c1a2b1a2b1a2b1c1", 12);
        // ((a9b1)2c1)2, and ((a9a1b1)2c1)2 as no figure is 10
        dueShort("((a9b1)2c1)2", 12);
        dueShort("((a9a1b1)2c1)2", 14);
        dueShort("((a8a1b1)2c1)2", 12);
        dueShort("((b1a9)2c1)2", 12);
        dueShort("((b1a9a1)2c1)2", 14);
        dueShort("((-2b2)3c3)2", 12);
        // ((a3b1)4)3 and ((a1b3)4)3: a loop that is all of a loop
        dueShort("((a3b1)4)3", 10);
        dueShort("((a1b3)4)3", 10);
        // SHORT of one level does not hang on that of another
        Desk x = Desk.of("Kd01d01v(a8)6.va1b2.v(a1b1)9.va1b1a1.");
        int[] want = {5, 4, 7, 6};
        for (int level = 0; level < 4; level++) due("P7 SHORT of " + level, x.level(level, 2), want[level]);
        for (int level = 3; level >= 0; level--) due("P7 SHORT of " + level + " again", x.level(level, 2), want[level]);
    }

    /** "ITEMS that tell of more FRAMES than LONG are not asked, though what is beyond 48 would be cut off". */
    private static void shortTellsOfJustTheFrames() {
        // 48 frames of five in turn: (a1b1c1d1e1)9a1b1c1; the 16 letters of the text tell of 50
        Desk x = Desk.of("Kd01d01d01d01d01v((a1b1c1d1e1)5)2.");
        due("P7 LONG", x.level(0, 0), 48);
        due("P7 SHORT of 48", x.level(0, 2), 19);
        // told by 54, (a8)6 is just 48
        dueShort("(a9)6", 5);
    }

    /** "ITEMS that tell of nothing count like others (-3 is two letters)". */
    private static void shortOfNothing() {
        dueShort("-1", 2);
        dueShort("-3", 2);
        dueShort("-1-1-1", 2);
        dueShort("-9-1", 4);
        dueShort("-9-9-9-9-9-9", 5);
        dueShort("a1-1", 4);
        dueShort("-1a1", 4);
        dueShort("(a1-1)9", 7);
        dueShort("a9-9-9-9-9-9", 9);
    }

    private static void bestOfLikeOnes() {
        Desk x = Desk.of("Kd01d01va2.va2.vb1.v.");
        due("P7 BEST of 0", x.level(0, 3), 2);
        due("P7 BEST of 1", x.level(1, 3), 2);
        due("P7 of like ones the least", x.level(2, 3), 0);
        due("P7 of an empty level", x.level(3, 3), 0);
        x.delay(0, 9);
        due("P7 BEST looks at all delays, not at its own", x.level(0, 3), 2);
        due("P7 BEST looks at the others' delays", x.level(1, 3), 0);
        due("P7 not delayed by asking", x.level(0, 1), 9);
        due("P7 alone", Desk.of("Kd01va9.").level(0, 3), 0);
    }

    private static void bestDelayIsNineAtMost() {
        due("P7 nine helps", Desk.of("Kd01va9.va9.").level(1, 3), 9);
        due("P7 ten would help", Desk.of("Kd01va9a1.va9.").level(1, 3), 0);
        due("P7 eight helps", Desk.of("Kd01va8.va9.").level(1, 3), 8);
        // what is delayed beyond frame 47 is no cel any more
        Desk x = Desk.of("Kd01d01v(a6)7a1b5.vb1.");
        due("P7 b is at 43 to 47 and at 0", x.level(0, 3), 0);
        due("P18 cels", x.ask(1), 2);
        Desk y = Desk.of("Kd01d01v(-6)7-1b5.va9.");
        due("P7 five later b is never exposed", y.level(0, 3), 5);
    }

    // ---- where

    private static void whereIsCut() {
        Desk x = Desk.of("Kv.v.v.v.");
        due("P11 at 47", x.pan(3, 9, -3, 9), 1009 - 15);
        int[] frames = {0, 8, 9, 17, 18, 44, 45, 47};
        int[] want = {1009, 1009, 1006, 1006, 1003, 997, 994, 994};
        for (int i = 0; i < frames.length; i++) due("P8 at " + frames[i], x.where(3, frames[i]), want[i]);
        x.pan(9, 0, 1, 1);
        for (int f = 0; f < 48; f++) due("P8 camera at " + f, x.where(9, f), 1000 + f);
        x.pan(0, -1, 2, 2);
        due("P8 at 1", x.where(0, 1), 999);
        due("P8 at 2", x.where(0, 2), 1001);
        due("P8 others are as at first", x.where(1, 47), 1000);
        x.pan(2, 4, 0, 1);
        due("P8 BY 0", x.where(2, 47), 1004);
    }

    private static void whereIsAtItsFarthest() {
        Desk x = Desk.of("Kv.");
        for (int level : new int[] {0, 9}) {
            due("P11 farthest below", x.pan(level, -9, -3, 1), 850);
            due("P8 farthest below at 0", x.where(level, 0), 991);
            due("P8 farthest below at 47", x.where(level, 47), 850);
            due("P11 farthest above", x.pan(level, 9, 3, 1), 1150);
            due("P8 farthest above at 0", x.where(level, 0), 1009);
            due("P8 farthest above at 47", x.where(level, 47), 1150);
        }
    }

    /** "An object is used for at most 512 calls after it has been made". */
    private static void the512thCall() {
        Desk x = Desk.of("Kd01va1.");
        while (x.calls() < Desk.MOST_CALLS - 1) x.delay(0, x.calls() % 10);
        due("the 512th call", x.undo(), 13);
    }
}
