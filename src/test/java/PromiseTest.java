/** One method for each promise of the document, with answers found by hand. */
public final class PromiseTest {
    private static final int UNKNOWN = -1, OUTSIDE = -2, STATE = -3, FULL = -4, NONE = -9;
    private static final int LOW = Integer.MIN_VALUE, HIGH = Integer.MAX_VALUE;
    /** a covers columns 0 to 2, b 2 and 3; level 0 is aaaabb, level 1 is -bbbaa. */
    private static final String TWO = "Kd03d22va4b2.v-1b3a2.";
    private static final String FOUR = "Kd01va1.va1.va1.va1.";

    private static final Check check = new Check();

    private static void due(String call, long got, long want) {
        check.due(call, got, want);
    }

    private static int faultOf(String text) {
        Desk x = new Desk();
        x.tell(text);
        return x.fault();
    }

    private static void dueFault(String text, int want) {
        due("fault of " + text, faultOf(text), want);
    }

    private static void dueShort(String items, int want) {
        Desk x = Desk.of("Kd01d01d01v" + items + ".");
        due("short of " + items, x.level(0, 2), want);
    }

    public static void main(String[] args) {
        newObject();
        write();
        wipe();
        fault();
        reel();
        drawing();
        level();
        shortest();
        best();
        where();
        redraw();
        delay();
        pan();
        swap();
        back();
        undo();
        exposed();
        order();
        look();
        ask();
        judge();
        see();
        unsee();
        which();
        share();
        lost();
        seed();
        looks();
        keep();
        again();
        count();
        check.end();
    }

    private static void newObject() {
        Desk x = new Desk();
        for (int i = 0; i < 6; i++) due("new count " + i, x.count(i), 0);
        due("new drawing", x.drawing(0, 0), UNKNOWN);
        due("new level", x.level(0, 0), UNKNOWN);
        due("new camera", x.where(9, 47), 1000);
        due("new look", x.look(0, 0), NONE);
        due("new order", x.order(47), 0);
        due("new changes", x.ask(0), 0);
        due("new cels", x.ask(1), 0);
        due("new which", x.which(), 0);
        due("new seed", x.seed(5), 0);
        due("new undo", x.undo(), STATE);
        due("new again", x.again(1), STATE);
        due("new reel", x.reel(), STATE);
        due("UNKNOWN", CelSheets.UNKNOWN, UNKNOWN);
        due("OUTSIDE", CelSheets.OUTSIDE, OUTSIDE);
        due("STATE", CelSheets.STATE, STATE);
        due("FULL", CelSheets.FULL, FULL);
        due("NONE", CelSheets.NONE, NONE);
    }

    private static void write() {
        Desk x = new Desk();
        due("write 0", x.write(0), 1);
        due("write 255", x.write(255), 2);
        due("write -1", x.write(-1), OUTSIDE);
        due("write 256", x.write(256), OUTSIDE);
        due("write LOW", x.write(LOW), OUTSIDE);
        for (int i = 3; i <= 80; i++) due("write " + i, x.write('d'), i);
        due("write 81st", x.write('d'), FULL);
        due("write 81st outside", x.write(HIGH), OUTSIDE);
        due("length", x.count(0), 80);
        due("fault of 80", x.fault(), 0);
    }

    private static void wipe() {
        Desk x = new Desk();
        due("wipe of none", x.wipe(), 0);
        x.tell(TWO);
        due("reel", x.reel(), 2);
        due("wipe", x.wipe(), TWO.length());
        due("wipe again", x.wipe(), 0);
        due("levels stay", x.count(2), 2);
        due("fault of none", x.fault(), 0);
    }

    private static void fault() {
        dueFault("", 0);
        dueFault("k", 0);
        dueFault(" K", 0);
        dueFault("K", NONE);
        dueFault("KK", 1);
        dueFault("Kd", 2);
        dueFault("Kda", 2);
        dueFault("Kd0", 3);
        dueFault("Kd00", 3);
        dueFault("Kd06", 3);
        dueFault("Kd05", NONE);
        dueFault("Kd91", NONE);
        dueFault("Kd01 ", 4);
        dueFault("Kd01d01d01d01d01d01", NONE);
        dueFault("Kd01d01d01d01d01d01d", 19);
        dueFault("Kv", 2);
        dueFault("Kv.", NONE);
        dueFault("Kv.d", 3);
        dueFault("Kv.v.v.v.", NONE);
        dueFault("Kv.v.v.v.v", 9);
        dueFault("Kva", 2);
        dueFault("Kd01vb", 5);
        dueFault("Kd01d01d01d01d01d01vf1.", NONE);
        dueFault("Kd01d01d01d01d01d01vg", 20);
        dueFault("Kv-", 3);
        dueFault("Kv-0", 3);
        dueFault("Kv-1", 4);
        dueFault("Kv-9.", NONE);
        dueFault("Kv-99", 4);
        dueFault("Kv(", 3);
        dueFault("Kv()", 3);
        dueFault("Kv(.", 3);
        dueFault("Kv(-1.", 5);
        dueFault("Kv(-1)", 6);
        dueFault("Kv(-1)1", 6);
        dueFault("Kv(-1)2", 7);
        dueFault("Kv(-1)2.", NONE);
        dueFault("Kv(-1)22", 7);
        dueFault("Kv)", 2);
        dueFault("Kv-1)", 4);
        dueFault("Kv((-1)2)9.", NONE);
        dueFault("Kv((-1)2-1(-1)9)2(-1)2.", NONE);
        dueFault("Kv((()", 4);
        dueFault("Kv-1(())", 6);
        dueFault("Kv(-1()", 6);
        dueFault("Kv(-1)2)", 7);
        dueFault("Kv.." , 3);
        dueFault("Kv" + "-1".repeat(39), 80);
        dueFault("Kd01v" + "a1".repeat(37) + ".", NONE);
    }

    private static void reel() {
        Desk x = Desk.of(TWO);
        due("text stays", x.count(0), TWO.length());
        x.pan(0, 1, 1, 1);
        x.pan(9, 1, 1, 1);
        x.delay(1, 4);
        x.redraw(0, 9, 5);
        x.swap(0, 10);
        x.see(1, 1, 1);
        x.seed(77);
        x.keep(0);
        due("reel anew", x.reel(), 2);
        due("x as told", x.drawing(0, 0), 0);
        due("width as told", x.drawing(0, 1), 3);
        due("delay as at first", x.level(1, 1), 0);
        due("pan as at first", x.where(0, 47), 1000);
        due("camera as at first", x.where(9, 47), 1000);
        due("no switches", x.count(3), 0);
        due("no acts", x.count(4), 0);
        due("undo", x.undo(), STATE);
        due("kept is gone", x.again(0), STATE);
        due("seen stays", x.count(5), 1);
        due("seed stays", x.seed(0), 77);
        x.tell("Kd01d02d03");
        due("no levels", x.reel(), 0);
        due("three drawings", x.count(1), 3);
        due("level is gone", x.level(0, 0), UNKNOWN);
        x.tell("Kd");
        due("reel with a fault", x.reel(), STATE);
        due("drawings are as they were", x.count(1), 3);
        x.tell("Kv-9(-9-9)9.");
        due("one level", x.reel(), 1);
        due("drawing is gone", x.drawing(0, 0), UNKNOWN);
        due("cut off", x.level(0, 0), 48);
    }

    private static void drawing() {
        Desk x = Desk.of(TWO);
        due("x", x.drawing(1, 0), 2);
        due("width", x.drawing(1, 1), 2);
        due("most", x.drawing(1, 2), 1);
        x.delay(1, 1);
        due("most, delayed", x.drawing(1, 2), 2);
        due("no such", x.drawing(2, 0), UNKNOWN);
        due("less than 0", x.drawing(-1, 9), UNKNOWN);
        due("what 3", x.drawing(0, 3), OUTSIDE);
        due("what -1", x.drawing(0, -1), OUTSIDE);
        Desk y = Desk.of("Kd01d01va9.v(a1-1)2.v-2a1.");
        due("three levels", y.drawing(0, 2), 3);
        due("never exposed", y.drawing(1, 2), 0);
    }

    private static void level() {
        Desk x = Desk.of(TWO);
        due("long", x.level(0, 0), 6);
        due("delay", x.level(0, 1), 0);
        x.delay(0, 7);
        due("delay told", x.level(0, 1), 7);
        due("long stays", x.level(0, 0), 6);
        due("no such", x.level(2, 0), UNKNOWN);
        due("camera is none", x.level(9, 0), UNKNOWN);
        due("less than 0", x.level(LOW, 9), UNKNOWN);
        due("what 4", x.level(1, 4), OUTSIDE);
        due("what -1", x.level(1, -1), OUTSIDE);
        due("long of loops", Desk.of("Kd01v((a1-2)3a1)2-1.").level(0, 0), 21);
    }

    private static void shortest() {
        dueShort("", 0);
        dueShort("a1", 2);
        dueShort("a1a1a1", 2);
        dueShort("a9", 2);
        dueShort("a9a1", 4);
        dueShort("a9a9", 4);
        dueShort("a9a9a9", 5);
        dueShort("a9a9a9a9a9a3", 5);
        dueShort("a9a9a9a9a9a2", 7);
        dueShort("a9a9a9a9a5-1-1-1", 9);
        dueShort("-9(-2)3", 4);
        dueShort("-3", 2);
        dueShort("a1b1a1b1", 7);
        dueShort("a1b1a1b1a1b1a1b1", 7);
        dueShort("(a1b1)9a1b1", 10);
        dueShort("(a1b1)9(a1b1)3", 10);
        dueShort("((a1b1)4c1)3", 12);
        dueShort("(a1b1)4c1(a1b1)4c1(a1b1)4c1", 12);
        dueShort("a1b1c1a1b1c1", 9);
        dueShort("a1b1c1a1b1", 10);
        // (((a1b1)2c1)2-1)2 would be 17, but lies too deep; ((a1b1a1b1c1)2-1)2 does not
        dueShort("((a1b1)2c1(a1b1)2c1-1)2", 18);
        Desk x = Desk.of("Kd01d01v(a1b1)5.");
        due("short", x.level(0, 2), 7);
        x.tell("Kd01v.");
        x.reel();
        due("short of another reel", x.level(0, 2), 0);
        x.tell("Kd01va1-1.");
        x.reel();
        due("short of a third reel", x.level(0, 2), 4);
    }

    private static void best() {
        Desk x = Desk.of("Kd01va2.va2.");
        due("best", x.level(1, 3), 2);
        due("delay is not changed", x.level(1, 1), 0);
        due("cels are not changed", x.ask(1), 2);
        due("acts are not changed", x.count(4), 0);
        x.delay(0, 2);
        due("best, the other delayed", x.level(1, 3), 0);
        x.delay(1, 8);
        due("the least of like ones", x.level(1, 3), 0);
        due("none helps", Desk.of("Kd01v(a9)9.va1.").level(1, 3), 0);
        due("nine", Desk.of("Kd01va9.va9.").level(0, 3), 9);
    }

    private static void where() {
        Desk x = Desk.of(TWO);
        x.pan(1, -9, -3, 1);
        due("at 0", x.where(1, 0), 991);
        due("at 47", x.where(1, 47), 1000 - 9 - 141);
        x.pan(9, 5, 2, 9);
        due("cut", x.where(9, 8), 1005);
        due("a step", x.where(9, 9), 1007);
        due("at 47", x.where(9, 47), 1015);
        due("other level", x.where(0, 47), 1000);
        due("no such", x.where(2, 0), UNKNOWN);
        due("no such, no frame", x.where(8, 48), UNKNOWN);
        due("f -1", x.where(9, -1), OUTSIDE);
        due("f 48", x.where(0, 48), OUTSIDE);
    }

    private static void redraw() {
        Desk x = Desk.of(TWO);
        due("redraw", x.redraw(1, 9, 5), 22);
        due("redraw again", x.redraw(1, 0, 1), 95);
        due("x", x.drawing(1, 0), 0);
        due("width", x.drawing(1, 1), 1);
        due("no such", x.redraw(2, 0, 1), UNKNOWN);
        due("no such, wrong x", x.redraw(-1, 10, 1), UNKNOWN);
        due("x 10", x.redraw(0, 10, 1), OUTSIDE);
        due("x -1", x.redraw(0, -1, 1), OUTSIDE);
        due("width 0", x.redraw(0, 0, 0), OUTSIDE);
        due("width 6", x.redraw(0, 0, 6), OUTSIDE);
        due("acts", x.count(4), 2);
        due("the same is an act", x.redraw(1, 0, 1), 1);
        due("acts", x.count(4), 3);
    }

    private static void delay() {
        Desk x = Desk.of(TWO);
        due("delay", x.delay(0, 9), 0);
        due("delay again", x.delay(0, 3), 9);
        due("no such", x.delay(2, 0), UNKNOWN);
        due("camera", x.delay(9, 0), UNKNOWN);
        due("no such, wrong v", x.delay(-1, 10), UNKNOWN);
        due("v 10", x.delay(0, 10), OUTSIDE);
        due("v -1", x.delay(0, -1), OUTSIDE);
        due("acts", x.count(4), 2);
        due("delay stays", x.level(0, 1), 3);
    }

    private static void pan() {
        Desk x = Desk.of(TWO);
        due("pan", x.pan(0, 9, 3, 1), 1150);
        due("pan", x.pan(0, -9, -3, 1), 850);
        due("pan", x.pan(0, 0, 1, 9), 1005);
        due("camera", x.pan(9, 1, -1, 2), 978);
        due("no such", x.pan(2, 0, 0, 1), UNKNOWN);
        due("no such, wrong start", x.pan(4, 10, 0, 1), UNKNOWN);
        due("start 10", x.pan(0, 10, 0, 1), OUTSIDE);
        due("start -10", x.pan(9, -10, 0, 1), OUTSIDE);
        due("by 4", x.pan(0, 0, 4, 1), OUTSIDE);
        due("by -4", x.pan(0, 0, -4, 1), OUTSIDE);
        due("every 0", x.pan(0, 0, 0, 0), OUTSIDE);
        due("every 10", x.pan(0, 0, 0, 10), OUTSIDE);
        due("acts", x.count(4), 4);
        due("pan stays", x.where(0, 47), 1005);
    }

    private static void swap() {
        Desk x = Desk.of(FOUR);
        due("f 48", x.swap(48, 123), OUTSIDE);
        due("f -1", x.swap(-1, 123), OUTSIDE);
        for (int order : new int[] {0, 122, 124, 12, 1023456, 3211, 10123, -123, LOW, HIGH}) {
            due("order " + order, x.swap(0, order), OUTSIDE);
        }
        due("first", x.swap(0, 123), 1);
        due("second", x.swap(47, 3210), 2);
        due("third", x.swap(0, 1032), 3);
        due("fourth", x.swap(0, 2013), 4);
        due("fifth", x.swap(0, 123), FULL);
        due("fifth, wrong", x.swap(0, 0), OUTSIDE);
        due("acts", x.count(4), 4);
        Desk one = Desk.of("Kv.");
        due("one level", one.swap(3, 0), 1);
        due("one level, 1", one.swap(3, 1), OUTSIDE);
        due("one level, 10", one.swap(3, 10), OUTSIDE);
        Desk none = Desk.of("K");
        due("no level", none.swap(3, 0), 1);
        due("no level, 1", none.swap(3, 1), OUTSIDE);
    }

    private static void back() {
        Desk x = Desk.of(TWO);
        due("back of none", x.back(), STATE);
        due("no act", x.count(4), 0);
        x.swap(20, 1);
        x.swap(10, 10);
        due("back", x.back(), 1);
        due("the last told is gone", x.order(15), 1);
        due("back", x.back(), 0);
        due("back of none", x.back(), STATE);
        due("acts", x.count(4), 4);
    }

    private static void undo() {
        Desk x = Desk.of(TWO);
        due("undo of none", x.undo(), STATE);
        x.redraw(0, 7, 1);
        x.delay(1, 3);
        x.pan(1, 5, 2, 3);
        x.pan(9, -5, -2, 4);
        x.swap(9, 10);
        x.back();
        due("of back", x.undo(), 5);
        due("switch is there", x.order(9), 10);
        due("and not ahead", x.order(8), 1);
        due("of swap", x.undo(), 4);
        due("switch is gone", x.count(3), 0);
        due("of the camera's pan", x.undo(), 3);
        due("camera", x.where(9, 47), 1000);
        due("of a pan", x.undo(), 2);
        due("pan", x.where(1, 47), 1000);
        due("of delay", x.undo(), 1);
        due("delay", x.level(1, 1), 0);
        due("of redraw", x.undo(), 0);
        due("x", x.drawing(0, 0), 0);
        due("width", x.drawing(0, 1), 3);
        due("no more", x.undo(), STATE);
        for (int i = 1; i <= 16; i++) x.delay(0, i % 10);
        due("never more than 14", x.count(4), 14);
        for (int i = 13; i >= 0; i--) due("undo to " + i, x.undo(), i);
        due("the first two are forgotten", x.level(0, 1), 2);
        due("no more", x.undo(), STATE);
    }

    private static void exposed() {
        Desk x = Desk.of(TWO);
        due("a", x.exposed(0, 3), 0);
        due("b", x.exposed(0, 4), 1);
        due("beyond", x.exposed(0, 6), NONE);
        due("nothing", x.exposed(1, 0), NONE);
        x.delay(0, 9);
        due("not yet", x.exposed(0, 8), NONE);
        due("begins", x.exposed(0, 9), 0);
        due("ends", x.exposed(0, 14), 1);
        due("has ended", x.exposed(0, 15), NONE);
        due("no such", x.exposed(2, 48), UNKNOWN);
        due("camera", x.exposed(9, 0), UNKNOWN);
        due("f 48", x.exposed(0, 48), OUTSIDE);
        due("f -1", x.exposed(0, -1), OUTSIDE);
        Desk y = Desk.of("Kd01d01d01v((a1b1)2c2)2(b1)3.");
        int[] want = {0, 1, 0, 1, 2, 2, 0, 1, 0, 1, 2, 2, 1, 1, 1, NONE};
        for (int f = 0; f < want.length; f++) due("loops at " + f, y.exposed(0, f), want[f]);
    }

    private static void order() {
        Desk x = Desk.of(FOUR);
        due("at first", x.order(0), 123);
        x.swap(20, 3210);
        x.swap(10, 1032);
        due("ahead of all", x.order(9), 123);
        due("from 10 on", x.order(10), 1032);
        due("still", x.order(19), 1032);
        due("from 20 on", x.order(47), 3210);
        x.swap(20, 2301);
        due("of like ones the last told", x.order(20), 2301);
        due("f -1", x.order(-1), OUTSIDE);
        due("f 48", x.order(48), OUTSIDE);
        due("three", Desk.of("Kv.v.v.").order(0), 12);
        due("none", Desk.of("K").order(0), 0);
    }

    private static void look() {
        Desk x = Desk.of(TWO);
        due("left end", x.look(0, 0), 0);
        due("right end", x.look(0, 2), 0);
        due("right of it", x.look(0, 3), NONE);
        due("top", x.look(1, 2), 0);
        due("lower", x.look(1, 3), 11);
        x.swap(2, 10);
        due("not yet", x.look(1, 2), 0);
        due("other on top", x.look(2, 2), 11);
        due("other does not cover", x.look(2, 1), 0);
        x.pan(9, 1, 0, 1);
        due("camera to the right", x.look(2, 0), 0);
        due("camera to the right", x.look(2, 1), 11);
        due("camera to the right", x.look(2, 2), 11);
        due("camera to the right", x.look(2, 3), NONE);
        x.pan(9, -9, 3, 1);
        due("columns less than 0", x.look(0, 8), NONE);
        due("columns less than 0", x.look(0, 9), 0);
        x.pan(0, -9, 0, 1);
        due("level with the camera", x.look(0, 0), 0);
        due("level with the camera", x.look(0, 3), NONE);
        due("f -1", x.look(-1, 0), OUTSIDE);
        due("f 48", x.look(48, 0), OUTSIDE);
        due("c -1", x.look(0, -1), OUTSIDE);
        due("c 10", x.look(0, 10), OUTSIDE);
    }

    private static void ask() {
        Desk x = Desk.of(TWO);
        due("changes", x.ask(0), 3);
        due("cels", x.ask(1), 2);
        x.delay(1, 1);
        due("cels, delayed", x.ask(1), 3);
        due("what 2", x.ask(2), OUTSIDE);
        due("what -1", x.ask(-1), OUTSIDE);
        // the same drawing on another level is something else
        due("levels count", Desk.of("Kd01va1.v-1a1.").ask(0), 2);
        Desk y = Desk.of("Kd05v(a9)9.");
        due("nothing changes", y.ask(0), 0);
        y.pan(9, -9, 3, 1);
        // the camera is at -9, -6, -3, .., so that columns 0 to 4 are in view at frames 0 to 4
        due("changes by the camera", y.ask(0), 5);
        y.pan(0, -9, 3, 1);
        due("level with the camera", y.ask(0), 0);
    }

    private static void judge() {
        Desk x = Desk.of(TWO);
        x.swap(2, 10);
        due("n 0", x.judge(0, 0), OUTSIDE);
        due("n 5", x.judge(5, 0), OUTSIDE);
        due("row -1", x.judge(1, -1), OUTSIDE);
        due("row of 5 figures", x.judge(1, 10000), OUTSIDE);
        due("row of 17 figures", x.judge(4, 10000000000000000L), OUTSIDE);
        due("row at most", x.judge(4, 9999999999999999L), 0);
        due("row of 0", x.judge(3, 0), 0);
        due("highest row", x.judge(4, Long.MAX_VALUE), OUTSIDE);
        due("first figures 0", x.judge(2, 7000), 0);
        due("delayed", x.judge(1, 1009), NONE);
        due("delayed, no such level", x.judge(1, 1200), 0);
        due("delayed, third figure", x.judge(1, 1010), 0);
        due("exposed", x.judge(1, 2000), NONE);
        due("not exposed", x.judge(1, 2001), 0);
        due("exposed, no such level", x.judge(1, 2002), 0);
        due("exposed, no such frame", x.judge(1, 2480), 0);
        due("seen", x.judge(1, 3013), NONE);
        due("not seen", x.judge(1, 3003), 0);
        due("seen, no such frame", x.judge(1, 3990), 0);
        due("drawn anew", x.judge(1, 4195), NONE);
        due("drawn anew, width 0", x.judge(1, 4190), 0);
        due("drawn anew, width 6", x.judge(1, 4196), 0);
        due("drawn anew, no such", x.judge(1, 4201), 0);
        due("cels", x.judge(1, 5002), NONE);
        due("not these cels", x.judge(1, 5003), 0);
        due("cels, second figure", x.judge(1, 5102), 0);
        due("on top", x.judge(1, 6010), NONE);
        due("on top, switched", x.judge(1, 6021), NONE);
        due("not on top", x.judge(1, 6020), 0);
        due("on top, no such frame", x.judge(1, 6480), 0);
        due("on top, no such level", x.judge(1, 6002), 0);
        due("back", x.judge(1, 7000), NONE);
        due("back twice", x.judge(2, 70007000), 1);
        due("back, other figures", x.judge(1, 7001), 0);
        for (int kind : new int[] {0, 8, 9}) due("kind " + kind, x.judge(1, 1000 * kind), 0);
        due("done from then on", x.judge(4, 1101500370006020L), NONE);
        due("drawn, then seen", x.judge(2, 40913009L), NONE);
        due("drawn, then not seen", x.judge(3, 409130093000L), 2);
        due("done for this call alone", x.judge(1, 5002), NONE);
        due("delay stays", x.level(1, 1), 0);
        due("switches stay", x.count(3), 1);
        due("acts stay", x.count(4), 1);
        due("on top without levels", Desk.of("K").judge(1, 6000), 0);
    }

    private static void see() {
        Desk x = new Desk();
        due("f 48", x.see(48, 0, 0), OUTSIDE);
        due("f -1", x.see(-1, 0, 0), OUTSIDE);
        due("c 10", x.see(0, 10, 0), OUTSIDE);
        due("c -1", x.see(0, -1, 0), OUTSIDE);
        due("v 40", x.see(0, 0, 40), OUTSIDE);
        due("v -1", x.see(0, 0, -1), OUTSIDE);
        due("v -8", x.see(0, 0, -8), OUTSIDE);
        due("v -10", x.see(0, 0, -10), OUTSIDE);
        due("first", x.see(47, 9, 39), 1);
        due("second", x.see(0, 0, NONE), 2);
        for (int i = 3; i <= 6; i++) due("the same once more", x.see(0, 0, NONE), i);
        due("seventh", x.see(0, 0, 0), FULL);
        due("seventh, outside", x.see(0, 0, 40), OUTSIDE);
        due("six", x.count(5), 6);
        due("no act", x.count(4), 0);
    }

    private static void unsee() {
        Desk x = Desk.of(TWO);
        due("none", x.unsee(), 0);
        x.see(0, 0, 39);
        x.see(0, 0, 38);
        due("which", x.which(), 0);
        due("two", x.unsee(), 2);
        due("which", x.which(), 3);
        due("none", x.unsee(), 0);
    }

    private static void which() {
        Desk x = Desk.of(TWO);
        due("nothing seen", x.which(), 3);
        x.see(1, 3, NONE);
        due("b", x.which(), 2);
        x.see(1, 2, 0);
        due("b still", x.which(), 2);
        x.see(0, 0, NONE);
        due("none", x.which(), 0);
        x.unsee();
        x.see(1, 2, 11);
        due("a: the lower level is seen", x.which(), 1);
        x.swap(0, 10);
        due("as all stands now: b is on top, and a can be rubbed out", x.which(), 1);
        x.unsee();
        x.see(1, 2, 0);
        due("b on top is rubbed out", x.which(), 2);
        x.tell("Kd01d01d01d01d01d01v.");
        x.reel();
        due("another reel leaves what is seen", x.which(), 0);
        x.unsee();
        due("all six", x.which(), 63);
    }

    private static void share() {
        Desk x = Desk.of(TWO);
        due("share 0 above", x.share(0, true), 27);
        due("share 0 below", x.share(0, false), 2);
        due("share 1 above", x.share(1, true), 19);
        due("share 1 below", x.share(1, false), 2);
        due("no such", x.share(2, true), UNKNOWN);
        due("no such", x.share(-1, false), UNKNOWN);
        x.pan(9, 9, 0, 1);
        due("nothing in view", x.share(0, true), 0);
        due("nothing in view", x.share(0, false), 1);
        Desk y = Desk.of("Kd01va1.va1.va1.");
        due("thirds", y.share(2, true), 1);
        due("thirds", y.share(2, false), 3);
        Desk z = Desk.of("Kd01v(-8)3a1.v(-8)2-7a1.");
        due("frame 24 is not asked", z.share(0, true), 0);
        due("frame 23 is", z.share(1, true), 1);
        due("a quarter", Desk.of(FOUR).share(3, false), 4);
    }

    private static void lost() {
        Desk x = Desk.of(TWO);
        due("two levels above", x.lost(1, 2, 4, true), 21);
        due("two levels below", x.lost(1, 2, 4, false), 25);
        due("one level above", x.lost(1, 0, 4, true), 3);
        due("one level below", x.lost(1, 0, 4, false), 5);
        due("none above", x.lost(9, 0, 4, true), 0);
        due("none below", x.lost(9, 0, 4, false), 1);
        due("none, never lost", x.lost(9, 0, 0, true), 0);
        due("never lost above", x.lost(1, 2, 0, true), 1);
        due("never lost below", x.lost(1, 2, 0, false), 1);
        due("always lost above", x.lost(1, 2, 10, true), 0);
        due("always lost below", x.lost(1, 2, 10, false), 1);
        due("x 11", x.lost(1, 2, 11, true), OUTSIDE);
        due("x -1", x.lost(1, 2, -1, false), OUTSIDE);
        due("f 48", x.lost(48, 2, 1, true), OUTSIDE);
        due("f -1", x.lost(-1, 2, 1, true), OUTSIDE);
        due("c 10", x.lost(1, 10, 1, true), OUTSIDE);
        due("c -1", x.lost(1, -1, 1, true), OUTSIDE);
        Desk y = Desk.of(FOUR);
        due("four levels above", y.lost(0, 0, 3, true), 9919);
        due("four levels below", y.lost(0, 0, 3, false), 10000);
    }

    private static void seed() {
        Desk x = new Desk();
        due("seed", x.seed(Long.MIN_VALUE), 0);
        due("seed", x.seed(Long.MAX_VALUE), Long.MIN_VALUE);
        due("seed", x.seed(0), Long.MAX_VALUE);
    }

    private static void looks() {
        Desk x = Desk.of("Kd05d55v(a9)9.v(b9)9.");
        due("m 0", x.looks(0), OUTSIDE);
        due("m 41", x.looks(41), OUTSIDE);
        due("seed stays", x.seed(0), 0);
        due("all is covered", x.looks(40), 40);
        x.seed(0);
        due("one", x.looks(1), 1);
        due("seed went on", x.seed(0), 1442695040888963407L);
        // (int) (1442695040888963407L >>> 33) is 167951807: frame 47, window 5
        Desk y = Desk.of("Kd51v(-9)5-2a1.");
        due("just there", y.looks(1), 1);
        y.redraw(0, 6, 1);
        y.seed(0);
        due("beside it", y.looks(1), 0);
        y.redraw(0, 5, 1);
        y.delay(0, 1);
        y.seed(0);
        due("a frame late", y.looks(1), 0);
        due("acts", y.count(4), 3);
    }

    private static void keep() {
        Desk x = Desk.of(TWO);
        due("slot 2", x.keep(2), UNKNOWN);
        due("slot -1", x.keep(-1), UNKNOWN);
        x.swap(1, 10);
        due("one switch", x.keep(0), 1);
        due("acts stay", x.count(4), 1);
        x.swap(1, 1);
        due("two switches", x.keep(1), 2);
        due("again 0", x.again(0), 1);
        due("again 1", x.again(1), 2);
        due("kept anew", x.keep(0), 2);
        x.back();
        due("again 0", x.again(0), 2);
    }

    private static void again() {
        Desk x = Desk.of(TWO);
        due("slot 2", x.again(2), UNKNOWN);
        due("slot -1", x.again(-1), UNKNOWN);
        due("none kept", x.again(0), STATE);
        x.redraw(1, 8, 4);
        x.delay(0, 6);
        x.pan(1, 3, 1, 2);
        x.pan(9, 4, -1, 5);
        x.swap(5, 10);
        x.keep(1);
        due("the other slot is empty", x.again(0), STATE);
        x.redraw(1, 1, 1);
        x.delay(0, 1);
        x.pan(1, 1, 1, 1);
        x.pan(9, 1, 1, 1);
        x.back();
        x.see(0, 0, 0);
        x.seed(9);
        due("again", x.again(1), 1);
        due("x", x.drawing(1, 0), 8);
        due("width", x.drawing(1, 1), 4);
        due("delay", x.level(0, 1), 6);
        due("pan", x.where(1, 47), 1026);
        due("camera", x.where(9, 47), 995);
        due("order", x.order(5), 10);
        due("order ahead", x.order(4), 1);
        due("the row is empty", x.count(4), 0);
        due("undo", x.undo(), STATE);
        due("seen stays", x.count(5), 1);
        due("seed stays", x.seed(0), 9);
        x.delay(0, 2);
        due("what is kept stays kept", x.again(1), 1);
        due("delay", x.level(0, 1), 6);
    }

    private static void count() {
        Desk x = Desk.of(TWO);
        x.swap(0, 10);
        x.swap(0, 1);
        x.swap(0, 10);
        x.delay(0, 1);
        x.see(0, 0, 0);
        int[] want = {21, 2, 2, 3, 4, 1};
        for (int i = 0; i < 6; i++) due("count " + i, x.count(i), want[i]);
        due("what 6", x.count(6), OUTSIDE);
        due("what -1", x.count(-1), OUTSIDE);
        due("what LOW", x.count(LOW), OUTSIDE);
    }
}
