import java.util.IdentityHashMap;
import java.util.Map;

/** What the tests of the document's edges share: states to begin with, and looking for what a call changed. */
final class Edges {
    static final int UNKNOWN = -1, OUTSIDE = -2, STATE = -3, FULL = -4, NONE = -9;
    static final int LOW = Integer.MIN_VALUE, HIGH = Integer.MAX_VALUE;

    /** Six drawings, four levels, the last one without items. */
    static final String BUSY_REEL = "Kd03d22d51d94d05d73va4(b2-1)3.vc9.v-2f3(d1e1)4.v.";
    /** A reel of just 80 letters. */
    static final String LONGEST = "Kd11d25v(a1)2" + "b1a2".repeat(16) + ".v.";

    /** Calls that bring a new object where a test begins. */
    interface Setup {
        void on(Calls x);
    }

    interface Call {
        long on(Calls x);
    }

    /** A call with one number left open. */
    interface NumberCall {
        long on(Calls x, int number);
    }

    /** Nothing was called yet. */
    static final Setup NEW = x -> { };
    /** All that can be full is full: the text, switches, acts (two are forgotten), what is seen, the slots. */
    static final Setup BUSY = x -> busy(x, 4, 6, LONGEST, true);
    /** As BUSY, with room for one letter, one switch, one more thing seen. */
    static final Setup ROOM = x -> busy(x, 3, 5, LONGEST.substring(0, 79), true);
    /** As BUSY, but nothing was kept. */
    static final Setup NOTHING_KEPT = x -> busy(x, 4, 6, LONGEST, false);
    /** As BUSY, without switches. */
    static final Setup NO_SWITCHES = x -> busy(x, 0, 6, LONGEST, true);
    /** As BUSY, all acts undone that were not forgotten. */
    static final Setup NO_ACTS = x -> {
        busy(x, 4, 6, LONGEST, true);
        for (int i = 0; i < 14; i++) x.undo();
    };
    /** As BUSY, gone on from a slot: there are switches, but no acts. */
    static final Setup GONE_ON = x -> {
        busy(x, 4, 6, LONGEST, true);
        x.again(1);
    };
    /** As GONE_ON, three switches and five acts. */
    static final Setup SOME_ACTS = x -> {
        GONE_ON.on(x);
        x.back();
        x.delay(2, 4);
        x.pan(2, -3, 2, 6);
        x.pan(9, 2, -1, 7);
        x.redraw(2, 6, 2);
    };
    /** As GONE_ON, and kept so in slot 0, too. */
    static final Setup KEPT_TWICE = x -> {
        GONE_ON.on(x);
        x.keep(0);
    };
    /** As BUSY, with a text that is no reel. */
    static final Setup FAULTY = x -> busy(x, 4, 6, "Kd11d25va1.vb", true);

    private static final int[] ORDERS = {3210, 1032, 2301, 312};

    private final Check check = new Check();
    private final Map<Setup, String[]> views = new IdentityHashMap<>();

    private static void busy(Calls x, int switches, int seen, String text, boolean kept) {
        x.more(BUSY_REEL);
        x.reel();
        x.tell(text);
        x.redraw(5, 1, 2);
        x.redraw(0, 4, 4);
        x.delay(2, 9);
        if (kept) x.keep(0);
        x.delay(0, 3);
        x.delay(1, 2);
        x.delay(2, 1);
        x.delay(1, 2);
        x.pan(0, -2, 1, 3);
        x.pan(2, 9, -1, 4);
        x.pan(9, 1, 1, 9);
        x.redraw(1, 3, 5);
        for (int i = 0; i < switches; i++) x.swap(12 * i, ORDERS[i]);
        if (kept) x.keep(1);
        x.pan(9, -1, 1, 5);
        x.redraw(2, 2, 3);
        x.delay(3, 7);
        x.redraw(4, 0, 5);
        for (int i = 0; i < seen; i++) x.see(i, i, i < 3 ? NONE : 10 + i);
        x.seed(4711);
    }

    void end() {
        check.end();
    }

    void due(String what, long got, long want) {
        check.due(what, got, want);
    }

    void holds(String what, boolean so) {
        check.holds(what, so);
    }

    /** The call answers as due and changes nothing that can be found out. */
    void unchanged(String what, Setup setup, Call call, long want) {
        String[] before = views.computeIfAbsent(setup, Edges::viewsOf);
        for (int i = 0; i < View.PIECES; i++) {
            Desk x = new Desk();
            setup.on(x);
            check.due(what, call.on(x), want);
            check.holds(what + " changes nothing, piece " + i, before[i].equals(View.piece(x, i)));
        }
    }

    private static String[] viewsOf(Setup setup) {
        String[] views = new String[View.PIECES];
        for (int i = 0; i < View.PIECES; i++) {
            Desk x = new Desk();
            setup.on(x);
            views[i] = View.piece(x, i);
        }
        return views;
    }

    /** The call changes something that can be found out. */
    void changed(String what, Setup setup, Call call) {
        String[] before = views.computeIfAbsent(setup, Edges::viewsOf);
        boolean other = false;
        for (int i = 0; i < View.PIECES; i++) {
            Desk x = new Desk();
            setup.on(x);
            call.on(x);
            other = other || !before[i].equals(View.piece(x, i));
        }
        check.holds(what + " changes something", other);
    }

    /** The least and the most are taken; one less, one more and the farthest are refused and change nothing. */
    void taken(String what, Setup setup, int least, int most, int refusal, NumberCall call) {
        for (int number : new int[] {least, least + (most - least) / 2, most}) {
            Desk x = new Desk();
            setup.on(x);
            long got = call.on(x, number);
            check.holds(what + " " + number + " is taken, not " + got, got >= 0 || got == NONE);
        }
        for (int number : new int[] {least - 1, most + 1, LOW, HIGH}) {
            unchanged(what + " " + number, setup, x -> call.on(x, number), refusal);
        }
    }
}
