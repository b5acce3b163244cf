/**
 * Each call with each of its numbers at, beside and far beyond its edges, in all combinations and in several
 * states, held against the model: what it answers, and what stands then.
 */
public final class SweepTest {
    private static final int LOW = Integer.MIN_VALUE, HIGH = Integer.MAX_VALUE;
    private static final int[] PLACES = {LOW, -2, -1, 0, 1, 2, 3, 4, 5, 6, 8, 9, 10, HIGH};
    private static final int[] FRAMES = {LOW, -1, 0, 1, 23, 24, 46, 47, 48, 49, HIGH};
    private static final int[] WINDOWS = {LOW, -1, 0, 5, 9, 10, HIGH};

    private static final Edges.Setup[] SETUPS = {Edges.NEW, Edges.BUSY, Edges.ROOM, Edges.NO_SWITCHES, Edges.GONE_ON,
        x -> reel(x, "Kd01d95va9.v-3b9."), x -> reel(x, "Kd01"), x -> reel(x, "Kv."),
        x -> reel(x, "Kd05d55v((a1b1)4)6.v(b8)6.v(-9a9)3.v(a2)9.")};

    private static final Check check = new Check();
    private static Edges.Setup setup;
    private static Desk desk;
    private static Model model;

    private static void reel(Calls x, String text) {
        x.more(text);
        x.reel();
    }

    public static void main(String[] args) {
        for (int i = 0; i < SETUPS.length; i++) {
            setup = SETUPS[i];
            String state = "state " + i + ": ";
            anew();
            asked(state);
            askedOfFrames(state);
            told(state);
            redrawn(state);
            panned(state);
            seen(state);
            judged(state);
        }
        check.end();
    }

    private static void anew() {
        desk = new Desk();
        model = new Model();
        setup.on(desk);
        setup.on(model);
    }

    /** One call on both; anew, where the desk has been used up. */
    private static void due(String what, Edges.Call call) {
        if (desk.calls() >= Desk.MOST_CALLS) anew();
        check.due(what, call.on(desk), call.on(model));
    }

    /** One call on both, from where the setup left them, and some of what stands then. */
    private static void dueAnew(String what, Edges.Call call) {
        anew();
        due(what, call);
        for (int count = 0; count < 6; count++) {
            int c = count;
            due(what + ", then count " + c, x -> x.count(c));
        }
        for (int level : new int[] {0, 1, 2, 3, 9}) {
            due(what + ", then where " + level, x -> x.where(level, 47));
            due(what + ", then delay " + level, x -> x.level(level, 1));
        }
        for (int d = 0; d < 6; d++) {
            int drawing = d;
            due(what + ", then x " + d, x -> x.drawing(drawing, 0));
            due(what + ", then width " + d, x -> x.drawing(drawing, 1));
        }
        for (int f : new int[] {0, 1, 12, 47}) {
            due(what + ", then order " + f, x -> x.order(f));
            due(what + ", then look " + f, x -> x.look(f, 4));
        }
        due(what + ", then which", x -> x.which());
        due(what + ", then undo", x -> x.undo());
        due(what + ", then acts", x -> x.count(4));
        due(what + ", then seed", x -> x.seed(0));
    }

    private static void asked(String state) {
        for (int a : PLACES) {
            due(state + "ask " + a, x -> x.ask(a));
            due(state + "count " + a, x -> x.count(a));
            due(state + "share " + a, x -> x.share(a, true));
            due(state + "share below " + a, x -> x.share(a, false));
            for (int b : PLACES) {
                due(state + "drawing " + a + " " + b, x -> x.drawing(a, b));
                due(state + "level " + a + " " + b, x -> x.level(a, b));
            }
        }
    }

    private static void askedOfFrames(String state) {
        for (int f : FRAMES) {
            due(state + "order " + f, x -> x.order(f));
            for (int a : PLACES) {
                due(state + "where " + a + " " + f, x -> x.where(a, f));
                due(state + "exposed " + a + " " + f, x -> x.exposed(a, f));
            }
            for (int c : WINDOWS) {
                due(state + "look " + f + " " + c, x -> x.look(f, c));
                for (int tenths : new int[] {LOW, -1, 0, 1, 5, 9, 10, 11, HIGH}) {
                    due(state + "lost " + f + " " + c + " " + tenths, x -> x.lost(f, c, tenths, true));
                    due(state + "lost below " + f + " " + c + " " + tenths, x -> x.lost(f, c, tenths, false));
                }
            }
        }
    }

    private static void told(String state) {
        for (int a : new int[] {LOW, -1, 0, 1, 46, 75, 118, 254, 255, 256, 257, HIGH}) {
            dueAnew(state + "write " + a, x -> x.write(a));
        }
        for (int a : new int[] {LOW, -1, 0, 1, 2, 39, 40, 41, HIGH}) {
            dueAnew(state + "looks " + a, x -> x.looks(a));
            dueAnew(state + "keep " + a, x -> x.keep(a));
            dueAnew(state + "again " + a, x -> x.again(a));
        }
        dueAnew(state + "wipe", x -> x.wipe());
        dueAnew(state + "reel", x -> x.reel());
        dueAnew(state + "back", x -> x.back());
        dueAnew(state + "unsee", x -> x.unsee());
        for (int f : FRAMES) {
            for (int order : new int[] {LOW, -10, -1, 0, 1, 2, 10, 12, 21, 123, 210, 1032, 3210, 3211, 4321, 10123, HIGH}) {
                dueAnew(state + "swap " + f + " " + order, x -> x.swap(f, order));
            }
        }
    }

    private static void redrawn(String state) {
        for (int a : PLACES) {
            for (int b : PLACES) {
                dueAnew(state + "delay " + a + " " + b, x -> x.delay(a, b));
                for (int w : new int[] {LOW, -1, 0, 1, 5, 6, HIGH}) {
                    dueAnew(state + "redraw " + a + " " + b + " " + w, x -> x.redraw(a, b, w));
                }
            }
        }
    }

    private static void panned(String state) {
        for (int a : new int[] {LOW, -1, 0, 1, 3, 4, 8, 9, 10, HIGH}) {
            for (int start : new int[] {LOW, -10, -9, 0, 9, 10, HIGH}) {
                for (int by : new int[] {LOW, -4, -3, 0, 3, 4, HIGH}) {
                    for (int every : new int[] {LOW, -1, 0, 1, 9, 10, HIGH}) {
                        dueAnew(state + "pan " + a + " " + start + " " + by + " " + every, x -> x.pan(a, start, by, every));
                    }
                }
            }
        }
    }

    private static void seen(String state) {
        for (int f : new int[] {LOW, -1, 0, 5, 47, 48, HIGH}) {
            for (int c : WINDOWS) {
                for (int v : new int[] {LOW, -10, -9, -8, -1, 0, 1, 11, 35, 39, 40, HIGH}) {
                    dueAnew(state + "see " + f + " " + c + " " + v, x -> x.see(f, c, v));
                }
            }
        }
    }

    /** Each doing of four figures by itself, and the edges of more of them. */
    private static void judged(String state) {
        for (int doing = 0; doing <= 10000; doing++) {
            int row = doing;
            due(state + "judge 1 " + row, x -> x.judge(1, row));
        }
        long[] rows = {Long.MIN_VALUE, -1, 0, 1, 9999, 10000, 99999999L, 100000000L, 999999999999L, 1000000000000L,
            9999999999999999L, 10000000000000000L, Long.MAX_VALUE, 7000700070007000L, 1009409570003009L};
        for (int n : new int[] {LOW, -1, 0, 1, 2, 3, 4, 5, HIGH}) {
            for (long row : rows) dueAnew(state + "judge " + n + " " + row, x -> x.judge(n, row));
        }
    }
}
