import java.util.List;
import java.util.Random;

/** Runs of random calls (the same ones each time), each answer held against the model's. */
public final class ModelTest {
    private static final int RUNS = 1500;
    /** Room for the longest of what is called at one go besides a reel. */
    private static final int CALLS = Desk.MOST_CALLS - 20;
    private static final int[] ODD = {Integer.MIN_VALUE, Integer.MAX_VALUE, -1000, -10, -2, -1, 4, 5, 6, 8, 10, 11, 40, 41, 48, 100, 12345};

    private final Check check;
    private final Random random;
    private final String run;
    private final Desk x = new Desk();
    private final Model m = new Model();

    private ModelTest(Check check, int seed) {
        this.check = check;
        this.random = new Random(seed);
        this.run = "run " + seed + ", call ";
    }

    public static void main(String[] args) {
        Check check = new Check();
        for (int i = 0; i < RUNS; i++) new ModelTest(check, i).go();
        check.end();
    }

    private void go() {
        tellReel();
        while (x.calls() < CALLS) {
            if (random.nextInt(60) == 0) tellReel();
            else if (random.nextInt(5) < 2) doAct();
            else askOne();
        }
    }

    private void due(String call, long got, long want) {
        check.due(run + x.calls() + " of reel " + m.text + ": " + call, got, want);
    }

    /** From lo to hi, and now and then something far off. */
    private int some(int lo, int hi) {
        int r = random.nextInt(25);
        if (r == 0) return ODD[random.nextInt(ODD.length)];
        if (r == 1) return random.nextBoolean() ? lo - 1 : hi + 1;
        return lo + random.nextInt(hi - lo + 1);
    }

    private String items(int drawings, int depth, int most, boolean atLeastOne) {
        StringBuilder s = new StringBuilder();
        int n = (atLeastOne ? 1 : 0) + random.nextInt(most);
        for (int i = 0; i < n; i++) {
            int r = random.nextInt(10);
            if (r < 2 && depth < 2) {
                s.append('(').append(items(drawings, depth + 1, 3, true)).append(')').append(2 + random.nextInt(8));
            } else {
                s.append(r < 4 || drawings == 0 ? '-' : (char) ('a' + random.nextInt(drawings)));
                s.append(random.nextBoolean() ? 1 + random.nextInt(9) : 1 + random.nextInt(2));
            }
        }
        return s.toString();
    }

    private String reelText() {
        StringBuilder s = new StringBuilder("K");
        int drawings = random.nextInt(8) == 0 ? 0 : 1 + random.nextInt(6);
        int levels = random.nextInt(5);
        for (int i = 0; i < drawings; i++) s.append('d').append(random.nextInt(10)).append(1 + random.nextInt(5));
        for (int i = 0; i < levels; i++) s.append('v').append(items(drawings, 0, 7, false)).append('.');
        if (random.nextInt(6) == 0) spoil(s);
        return s.toString();
    }

    private void spoil(StringBuilder s) {
        String letters = "Kdvabcdef-().0123456789 xA";
        int at = random.nextInt(s.length() + 1);
        char letter = letters.charAt(random.nextInt(letters.length()));
        switch (random.nextInt(4)) {
            case 0: s.setLength(at); break;
            case 1: s.insert(at, letter); break;
            case 2: if (at < s.length()) s.setCharAt(at, letter); break;
            default: if (at < s.length()) s.deleteCharAt(at); break;
        }
    }

    private void tellReel() {
        if (random.nextInt(8) != 0) due("wipe", x.wipe(), m.wipe());
        String text = reelText();
        // with a fault asked behind each letter, and two calls more
        if (x.calls() + 2 * text.length() + 2 > CALLS) return;
        boolean eachTime = random.nextInt(4) == 0;
        for (char c : text.toCharArray()) {
            due("write " + c, x.write(c), m.write(c));
            if (eachTime) due("fault", x.fault(), m.fault());
        }
        due("fault", x.fault(), m.fault());
        due("reel", x.reel(), m.reel());
    }

    private int someLevel() {
        return random.nextInt(6) == 0 ? 9 : some(0, Math.max(0, m.levels() - 1));
    }

    private void doAct() {
        int level = someLevel();
        int f = some(0, random.nextBoolean() ? 47 : 12);
        switch (random.nextInt(9)) {
            case 0: case 1: {
                int d = some(0, Math.max(0, m.drawings() - 1));
                int at = some(0, 9);
                int w = some(1, 5);
                due("redraw " + d + " " + at + " " + w, x.redraw(d, at, w), m.redraw(d, at, w));
                break;
            }
            case 2: case 3: {
                int v = some(0, 9);
                due("delay " + level + " " + v, x.delay(level, v), m.delay(level, v));
                break;
            }
            case 4: case 5: {
                int s = some(-9, 9);
                int by = some(-3, 3);
                int every = some(1, 9);
                due("pan " + level + " " + s + " " + by + " " + every, x.pan(level, s, by, every), m.pan(level, s, by, every));
                break;
            }
            case 6: {
                List<Integer> orders = m.allOrders();
                int o = random.nextInt(6) == 0 ? some(0, 3210) : orders.get(random.nextInt(orders.size()));
                due("swap " + f + " " + o, x.swap(f, o), m.swap(f, o));
                break;
            }
            case 7:
                if (random.nextInt(3) == 0) due("back", x.back(), m.back());
                break;
            default: {
                int n = random.nextInt(10) == 0 ? 20 : 1;
                for (int i = 0; i < n; i++) due("undo", x.undo(), m.undo());
                break;
            }
        }
    }

    private void askOne() {
        int level = someLevel();
        int f = some(0, 47);
        int c = some(0, 9);
        boolean upper = random.nextBoolean();
        switch (random.nextInt(20)) {
            case 0: {
                int d = some(0, 5);
                int what = some(0, 2);
                due("drawing " + d + " " + what, x.drawing(d, what), m.drawing(d, what));
                break;
            }
            case 1: case 2: {
                int what = some(0, 3);
                due("level " + level + " " + what, x.level(level, what), m.level(level, what));
                break;
            }
            case 3: due("where " + level + " " + f, x.where(level, f), m.where(level, f)); break;
            case 4: due("exposed " + level + " " + f, x.exposed(level, f), m.exposed(level, f)); break;
            case 5: due("order " + f, x.order(f), m.order(f)); break;
            case 6: case 7: case 8: due("look " + f + " " + c, x.look(f, c), m.look(f, c)); break;
            case 9: {
                int what = some(0, 1);
                due("ask " + what, x.ask(what), m.ask(what));
                break;
            }
            case 10: case 11: case 12: judgeOne(); break;
            case 13: case 14: seeOne(f, c); break;
            case 15: due("share " + level + " " + upper, x.share(level, upper), m.share(level, upper)); break;
            case 16: {
                int t = some(0, 10);
                due("lost " + f + " " + c + " " + t + " " + upper, x.lost(f, c, t, upper), m.lost(f, c, t, upper));
                break;
            }
            case 17: {
                int n = some(1, 40);
                due("looks " + n, x.looks(n), m.looks(n));
                long v = random.nextLong();
                if (random.nextBoolean()) due("seed " + v, x.seed(v), m.seed(v));
                break;
            }
            case 18: {
                int slot = some(0, 1);
                if (upper) due("keep " + slot, x.keep(slot), m.keep(slot));
                else due("again " + slot, x.again(slot), m.again(slot));
                break;
            }
            default: {
                int what = some(0, 5);
                due("count " + what, x.count(what), m.count(what));
                break;
            }
        }
    }

    private int doing() {
        int level = Math.max(0, m.levels() - 1);
        int f = random.nextInt(12) == 0 ? random.nextInt(100) : random.nextInt(30);
        switch (random.nextInt(9)) {
            case 0: return 1000 + 100 * random.nextInt(level + 1) + random.nextInt(10);
            case 1: return 2000 + 10 * f + random.nextInt(level + 1);
            case 2: return 3000 + 10 * f + random.nextInt(10);
            case 3: return 4000 + 100 * random.nextInt(Math.max(1, m.drawings())) + random.nextInt(10) * 10 + 1 + random.nextInt(5);
            case 4: return 5000 + m.cels() + (random.nextInt(4) == 0 ? 1 : 0);
            case 5: return 6000 + 10 * f + m.order(f % 48) / (int) Math.pow(10, level);
            case 6: return 7000;
            default: return random.nextInt(10000);
        }
    }

    private void judgeOne() {
        int n = some(1, 4);
        long row = 0;
        for (int i = 0; i < Math.min(4, n); i++) row = row * 10000 + doing();
        if (random.nextInt(30) == 0) row = random.nextLong();
        if (random.nextInt(30) == 0) row = (long) Math.pow(10, 4 * Math.max(1, Math.min(4, n))) - random.nextInt(2);
        due("judge " + n + " " + row, x.judge(n, row), m.judge(n, row));
    }

    private void seeOne(int f, int c) {
        int r = random.nextInt(8);
        if (r == 0) {
            due("unsee", x.unsee(), m.unsee());
        } else if (r < 4 && m.frame(f) && m.window(c)) {
            int v = m.seenOf(15, f, c, random.nextInt(6));
            due("see " + f + " " + c + " " + v, x.see(f, c, v), m.see(f, c, v));
        } else if (r == 4) {
            int v = random.nextInt(4) == 0 ? -9 : some(0, 39);
            due("see " + f + " " + c + " " + v, x.see(f, c, v), m.see(f, c, v));
        }
        due("which", x.which(), m.which());
    }
}
