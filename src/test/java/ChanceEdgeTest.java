import java.math.BigInteger;

/** The edges of promises 23 to 26 and of the terms on fractions, one method for each sentence. */
public final class ChanceEdgeTest {
    private static final int NONE = -9;
    private static final String ALL = "v(a8)6.";

    private static final Edges edges = new Edges();

    private static void due(String what, long got, long want) {
        edges.due(what, got, want);
    }

    private static void dueShare(String reel, int level, int above, int below) {
        Desk x = Desk.of(reel);
        due("P23 above, " + level + " of " + reel, x.share(level, true), above);
        due("P23 below, " + level + " of " + reel, x.share(level, false), below);
    }

    private static void dueLost(Desk x, int f, int c, int tenths, int above, int below) {
        due("P24 above, " + tenths + " tenths", x.lost(f, c, tenths, true), above);
        due("P24 below, " + tenths + " tenths", x.lost(f, c, tenths, false), below);
    }

    public static void main(String[] args) {
        shareOfNothing();
        shareOfFrames0To23();
        shareOfWindows();
        shareOfLikeLevels();
        shareInLeastTerms();
        shareWhateverTheOrder();
        sharesTogether();
        lostByNoneAndAll();
        lostInLeastTerms();
        lostByHowManyCover();
        lostAtTheEnds();
        seedFromEndToEnd();
        seedWraps();
        looksOfOneAndForty();
        looksAtFrameAndWindow();
        nothingChangesButTheSeed();
        edges.end();
    }

    // ---- SHARE

    /** "0 is 0 above, 1 below". */
    private static void shareOfNothing() {
        dueShare("Kv.", 0, 0, 1);
        dueShare("Kd01v.va1.", 0, 0, 1);
        Desk x = Desk.of("Kd01va1.");
        x.pan(9, 1, 0, 1);
        due("P23 out of view, above", x.share(0, true), 0);
        due("P23 out of view, below", x.share(0, false), 1);
    }

    private static void shareOfFrames0To23() {
        dueShare("Kd01va1.", 0, 1, 1);
        dueShare("Kd01v(-8)2-7a1.", 0, 1, 1);
        dueShare("Kd01v(-8)3a1.", 0, 0, 1);
        dueShare("Kd01v(-8)2-7a9.", 0, 1, 1);
        dueShare("Kd01v(a8)3.", 0, 24, 1);
        dueShare("Kd01v(a8)6.", 0, 24, 1);
        dueShare("Kd05v(a8)6.", 0, 120, 1);
        Desk x = Desk.of("Kd01v(-8)2-6a1.");
        x.delay(0, 1);
        due("P23 at 23", x.share(0, true), 1);
        x.delay(0, 2);
        due("P23 at 24", x.share(0, true), 0);
    }

    private static void shareOfWindows() {
        Desk x = Desk.of("Kd95va1.");
        due("P23 window 9 alone", x.share(0, true), 1);
        x.pan(0, -1, 0, 1);
        due("P23 windows 8 and 9", x.share(0, true), 2);
        x.redraw(0, 0, 5);
        x.pan(0, -4, 0, 1);
        due("P23 window 0 alone", x.share(0, true), 1);
        x.pan(0, -5, 0, 1);
        due("P23 left of all", x.share(0, true), 0);
        x.pan(9, -5, 0, 1);
        due("P23 the camera, too", x.share(0, true), 5);
    }

    private static void shareOfLikeLevels() {
        dueShare("Kd01va1.va1.", 1, 1, 2);
        dueShare("Kd01va1.va1.va1.", 2, 1, 3);
        dueShare("Kd01va1.va1.va1.va1.", 3, 1, 4);
        dueShare("Kd05" + ALL + ALL + ALL + ALL, 0, 30, 1);
        dueShare("Kd05" + ALL + ALL + ALL, 0, 40, 1);
        dueShare("Kd05" + ALL + ALL, 0, 60, 1);
        dueShare("Kd05" + ALL + "v.v.v.", 0, 120, 1);
    }

    private static void shareInLeastTerms() {
        // frame 0: three cover, frame 1: four, frame 2: two
        String reel = "Kd01va3.va2.va2.v-1a2.";
        dueShare(reel, 0, 13, 12);
        dueShare(reel, 1, 7, 12);
        dueShare(reel, 3, 3, 4);
        // two halves are one, two quarters a half
        dueShare("Kd01va2.va2.", 0, 1, 1);
        dueShare("Kd01va2.va2.va2.va2.", 0, 1, 2);
        dueShare("Kd01va4.va4.va4.", 0, 4, 3);
        dueShare("Kd01va6.va6.va6.va6.", 0, 3, 2);
    }

    /** LEVELS come in each order as likely: their ORDER on the desk does not matter. */
    private static void shareWhateverTheOrder() {
        Desk x = Desk.of("Kd03d22va4.vb4.");
        int above = x.share(0, true);
        int below = x.share(0, false);
        due("P23 two alone and a half, four times", above, 10);
        due("P23 below", below, 1);
        x.swap(0, 10);
        due("P23 switched, above", x.share(0, true), above);
        due("P23 switched, below", x.share(0, false), below);
    }

    private static void sharesTogether() {
        Desk x = Desk.of("Kd03d22d15va4b2.v-1b3a2.vc9.va1-1a1-1a1.");
        int covered = 0;
        for (int f = 0; f < 24; f++) {
            for (int c = 0; c < 10; c++) covered += x.look(f, c) == NONE ? 0 : 1;
        }
        long twelfths = 0;
        for (int level = 0; level < 4; level++) twelfths += x.share(level, true) * 12L / x.share(level, false);
        due("P23 all shares are what is covered", twelfths, 12L * covered);
    }

    // ---- LOST

    private static void lostByNoneAndAll() {
        Desk x = Desk.of("Kd01va1.va1.va1.va1.");
        dueLost(x, 0, 0, 0, 1, 1);
        dueLost(x, 0, 0, 10, 0, 1);
        dueLost(x, 1, 0, 0, 0, 1);
        dueLost(x, 1, 0, 10, 0, 1);
        dueLost(new Desk(), 47, 9, 0, 0, 1);
        dueLost(new Desk(), 47, 9, 10, 0, 1);
    }

    private static void lostInLeastTerms() {
        Desk one = Desk.of("Kd01va1.");
        int[] above = {1, 9, 4, 7, 3, 1, 2, 3, 1, 1, 0};
        int[] below = {1, 10, 5, 10, 5, 2, 5, 10, 5, 10, 1};
        for (int x = 0; x <= 10; x++) dueLost(one, 0, 0, x, above[x], below[x]);
        Desk four = Desk.of("Kd01va1.va1.va1.va1.");
        dueLost(four, 0, 0, 1, 9999, 10000);
        dueLost(four, 0, 0, 2, 624, 625);
        dueLost(four, 0, 0, 3, 9919, 10000);
        dueLost(four, 0, 0, 5, 15, 16);
        dueLost(four, 0, 0, 9, 3439, 10000);
    }

    private static void lostByHowManyCover() {
        Desk x = Desk.of("Kd01d02d03d04va1.vb1.vc1.vd1.");
        dueLost(x, 0, 0, 5, 15, 16);
        dueLost(x, 0, 1, 5, 7, 8);
        dueLost(x, 0, 2, 5, 3, 4);
        dueLost(x, 0, 3, 5, 1, 2);
        dueLost(x, 0, 4, 5, 0, 1);
        x.swap(0, 3210);
        dueLost(x, 0, 1, 5, 7, 8);
        x.delay(3, 1);
        dueLost(x, 0, 1, 5, 3, 4);
        dueLost(x, 1, 1, 5, 1, 2);
    }

    private static void lostAtTheEnds() {
        Desk x = Desk.of("Kd91v(a8)6.");
        dueLost(x, 0, 9, 1, 9, 10);
        dueLost(x, 47, 9, 1, 9, 10);
        dueLost(x, 47, 8, 1, 0, 1);
        x.redraw(0, 0, 1);
        dueLost(x, 47, 0, 1, 9, 10);
        x.pan(9, 9, 3, 1);
        x.pan(0, 9, 3, 1);
        dueLost(x, 47, 0, 1, 9, 10);
    }

    // ---- THE SEED, LOOKS

    private static void seedFromEndToEnd() {
        Desk x = new Desk();
        due("P25 0 at first", x.seed(Long.MIN_VALUE), 0);
        due("P25 the least", x.seed(Long.MAX_VALUE), Long.MIN_VALUE);
        due("P25 the most", x.seed(-1), Long.MAX_VALUE);
        due("P25 -1", x.seed(1L << 32), -1);
        due("P25 beyond an int", x.seed(0), 1L << 32);
    }

    /** "(64 bits, wrapping)". */
    private static void seedWraps() {
        long[] seeds = {0, 1, -1, Long.MIN_VALUE, Long.MAX_VALUE, 4711, -4711, 1L << 33, (1L << 33) - 1};
        for (long seed : seeds) {
            Desk x = new Desk();
            x.seed(seed);
            BigInteger due = BigInteger.valueOf(seed);
            for (int i = 0; i < 3; i++) {
                due = due.multiply(new BigInteger("6364136223846793005")).add(new BigInteger("1442695040888963407"));
            }
            x.looks(3);
            due("P26 THE SEED behind " + seed, x.seed(0), due.longValue());
        }
        Desk x = new Desk();
        x.seed(Long.MAX_VALUE);
        x.looks(1);
        due("P26 worked out by hand", x.seed(0), 4301930853896946210L);
    }

    private static void looksOfOneAndForty() {
        String reel = "Kd05d55v(a8)6.v(b8)6.";
        Desk x = Desk.of(reel);
        for (int m = 1; m <= 40; m++) due("P26 all is covered", x.looks(m), m);
        Desk y = Desk.of("Kd03d22va4b2.v-1b3a9.");
        Desk z = Desk.of("Kd03d22va4b2.v-1b3a9.");
        int ones = 0;
        for (int i = 0; i < 40; i++) ones += y.looks(1);
        due("P26 forty at once or one by one", z.looks(40), ones);
        due("P26 the same seed", z.seed(0), y.seed(0));
    }

    /** "v is (int) (x >>> 33)": never less than 0, so that each look is at a FRAME in a WINDOW. */
    private static void looksAtFrameAndWindow() {
        long[] seeds = {0, 1, 2, -1, Long.MIN_VALUE, Long.MAX_VALUE, 77, -77, 1L << 62, 123456789012345L};
        for (long seed : seeds) {
            BigInteger next = BigInteger.valueOf(seed).multiply(new BigInteger("6364136223846793005"))
                .add(new BigInteger("1442695040888963407")).mod(BigInteger.ONE.shiftLeft(64));
            int v = next.shiftRight(33).intValueExact();
            int f = v % 48;
            int c = v / 48 % 10;
            String sheet = f == 0 ? "a1" : "-1".repeat(f % 9) + (f < 9 ? "" : f < 18 ? "-9" : "(-9)" + f / 9) + "a1";
            Desk x = Desk.of("Kd" + c + "1v" + sheet + ".");
            due("P26 seed " + seed + " looks at " + f + ", " + c, x.look(f, c), 0);
            x.seed(seed);
            due("P26 seed " + seed + " sees it", x.looks(1), 1);
            x.redraw(0, (c + 1) % 10, 1);
            x.seed(seed);
            due("P26 seed " + seed + " does not see another window", x.looks(1), 0);
        }
    }

    private static void nothingChangesButTheSeed() {
        edges.unchanged("P26 looked, and THE SEED told as it was", Edges.BUSY, x -> {
            x.looks(40);
            x.looks(1);
            x.seed(4711);
            return 0;
        }, 0);
        edges.unchanged("P25 told as it was", Edges.BUSY, x -> x.seed(4711), 4711);
        edges.changed("P25 told anew", Edges.BUSY, x -> x.seed(4712));
        for (boolean upper : new boolean[] {true, false}) {
            edges.unchanged("P24 asked only", Edges.NEW, x -> x.lost(0, 0, 5, upper), upper ? 0 : 1);
            edges.unchanged("P23 asked only", Edges.BUSY, x -> x.share(3, upper), upper ? 0 : 1);
        }
    }
}
