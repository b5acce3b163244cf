/** The edges of promises 20 to 22, one method for each sentence. */
public final class SeenEdgeTest {
    private static final int OUTSIDE = -2, FULL = -4, NONE = -9;
    private static final String SIX = "Kd01d01d01d01d01d01";

    private static final Edges edges = new Edges();

    private static void due(String what, long got, long want) {
        edges.due(what, got, want);
    }

    public static void main(String[] args) {
        neverMoreThanSix();
        valuesOfWhatIsSeen();
        framesAndWindows();
        toldTwice();
        unseenAll();
        whichOfNothingSeen();
        whichIsRubbedOut();
        whichLetsTheLowerBeSeen();
        whichOfNone();
        whichAtTheHighest();
        asAllStandsWhenAsked();
        anotherReelLeavesThem();
        askingChangesNothing();
        edges.end();
    }

    private static void neverMoreThanSix() {
        Desk x = new Desk();
        for (int i = 1; i <= 6; i++) due("P20 the " + i + "th", x.see(47, 9, 39), i);
        due("P20 the 7th", x.see(47, 9, 39), FULL);
        due("P20 the 7th, NONE", x.see(0, 0, NONE), FULL);
        due("P29 six", x.count(5), 6);
        due("P21 six", x.unsee(), 6);
        for (int i = 1; i <= 6; i++) due("P20 the " + i + "th anew", x.see(0, 0, NONE), i);
        due("P20 the 7th anew", x.see(0, 0, NONE), FULL);
    }

    private static void valuesOfWhatIsSeen() {
        Desk x = new Desk();
        for (int v = -20; v < 60; v++) {
            boolean right = v == NONE || v >= 0 && v <= 39;
            due("P20 v " + v, x.see(0, 0, v), right ? 1 : OUTSIDE);
            x.unsee();
        }
    }

    private static void framesAndWindows() {
        Desk x = new Desk();
        for (int f = -3; f < 52; f++) {
            due("P20 f " + f, x.see(f, 5, 0), f >= 0 && f <= 47 ? 1 : OUTSIDE);
            x.unsee();
        }
        for (int c = -3; c < 13; c++) {
            due("P20 c " + c, x.see(5, c, 0), c >= 0 && c <= 9 ? 1 : OUTSIDE);
            x.unsee();
        }
    }

    private static void toldTwice() {
        Desk x = Desk.of("Kd01va1.");
        due("P20 once", x.see(0, 0, NONE), 1);
        due("P20 twice", x.see(0, 0, NONE), 2);
        due("P22 a", x.which(), 1);
        due("P20 and otherwise", x.see(0, 0, 0), 3);
        due("P22 both can not be", x.which(), 0);
    }

    /** "Nothing is SEEN: how much there was." */
    private static void unseenAll() {
        Desk x = Desk.of("Kd01d01va1.");
        due("P21 none", x.unsee(), 0);
        x.see(0, 0, 39);
        due("P22 never so", x.which(), 0);
        due("P21 one", x.unsee(), 1);
        due("P22 all again", x.which(), 3);
        due("P29 none", x.count(5), 0);
        due("P21 none", x.unsee(), 0);
    }

    private static void whichOfNothingSeen() {
        for (int drawings = 0; drawings <= 6; drawings++) {
            due("P22 all of " + drawings, Desk.of(SIX.substring(0, 1 + 3 * drawings)).which(), (1 << drawings) - 1);
        }
        due("P22 new", new Desk().which(), 0);
    }

    private static void whichIsRubbedOut() {
        // windows 0 to 5 show a to f
        Desk x = Desk.of("Kd01d11d21d31d41d51va1b1c1d1e1f1.");
        for (int d = 0; d < 6; d++) {
            x.unsee();
            x.see(d, d, NONE);
            due("P22 just " + d, x.which(), 1 << d);
            x.see((d + 1) % 6, (d + 1) % 6, (d + 1) % 6);
            due("P22 still " + d, x.which(), 1 << d);
            x.unsee();
            x.see(d, d, d);
            due("P22 any but " + d, x.which(), 63 - (1 << d));
        }
        x.unsee();
        for (int d = 0; d < 5; d++) x.see(d, d, d);
        due("P22 the one that is left", x.which(), 32);
        x.see(5, 5, 5);
        due("P22 none is left", x.which(), 0);
    }

    private static void whichLetsTheLowerBeSeen() {
        Desk x = Desk.of("Kd01d01d01va2.vb2.va1c1.");
        x.see(0, 0, 11);
        due("P22 a on top is gone: b", x.which(), 1);
        x.unsee();
        x.see(0, 0, 0);
        due("P22 a on top is there", x.which(), 6);
        x.unsee();
        // a is on two levels, and gone from both
        x.see(0, 0, 20);
        due("P22 a below can not be seen", x.which(), 0);
        x.unsee();
        x.swap(0, 120);
        x.see(1, 0, 22);
        due("P22 b on top is gone: c", x.which(), 2);
        x.see(0, 0, 20);
        due("P22 b on top is gone: a", x.which(), 2);
    }

    private static void whichOfNone() {
        Desk x = Desk.of("Kd01va1.");
        x.see(47, 9, NONE);
        due("P22 nothing is seen there anyhow", x.which(), 1);
        x.see(0, 0, 10);
        due("P22 no such level", x.which(), 0);
        x.unsee();
        x.see(0, 0, 1);
        due("P22 no such drawing", x.which(), 0);
        x.unsee();
        for (int v = 6; v < 10; v++) {
            x.see(0, 0, v);
            due("P22 no drawing " + v, x.which(), 0);
            x.unsee();
        }
    }

    private static void whichAtTheHighest() {
        Desk x = Desk.of(SIX + "va1.va1.va1.v(f8)6.");
        x.see(47, 0, 35);
        due("P22 any but f", x.which(), 31);
        x.see(0, 0, 35);
        due("P22 a, that lies on f", x.which(), 1);
        x.unsee();
        x.see(47, 0, NONE);
        due("P22 f", x.which(), 32);
        x.unsee();
        x.see(47, 0, 36);
        due("P22 there is no seventh", x.which(), 0);
    }

    /** "as all stands when that is asked, not when it was told". */
    private static void asAllStandsWhenAsked() {
        Desk x = Desk.of("Kd01d91va1b1.");
        x.see(0, 0, NONE);
        due("P22 a", x.which(), 1);
        x.redraw(0, 1, 1);
        due("P22 drawn anew, it is not there", x.which(), 3);
        x.undo();
        x.delay(0, 1);
        due("P22 delayed", x.which(), 3);
        x.undo();
        x.pan(0, 1, 0, 1);
        due("P22 panned", x.which(), 3);
        x.undo();
        x.pan(9, 1, 0, 1);
        due("P22 the camera panned", x.which(), 3);
        x.undo();
        due("P22 as ahead", x.which(), 1);
        x.keep(0);
        x.delay(0, 9);
        x.again(0);
        due("P22 gone on from a slot", x.which(), 1);
    }

    private static void anotherReelLeavesThem() {
        Desk x = new Desk();
        x.see(0, 0, 1);
        due("P22 no drawings", x.which(), 0);
        x.tell("Kd01d01d01va1.v.");
        x.reel();
        due("P22 not so", x.which(), 0);
        x.tell("Kd01d01d01vb1.");
        x.reel();
        due("P22 so without a or c", x.which(), 5);
        due("P29 one", x.count(5), 1);
        x.tell("Kd");
        x.reel();
        due("P22 refused", x.which(), 5);
    }

    private static void askingChangesNothing() {
        edges.unchanged("P22 asked only", Edges.BUSY, x -> x.which(), 0);
        edges.unchanged("P22 asked only, new", Edges.NEW, x -> x.which(), 0);
        edges.unchanged("P21 nothing there", Edges.NEW, x -> x.unsee(), 0);
        edges.unchanged("P3 nothing there", Edges.NEW, x -> x.wipe(), 0);
    }
}
