import java.util.ArrayDeque;
import java.util.ArrayList;
import java.util.Arrays;
import java.util.HashMap;
import java.util.List;
import java.util.Map;

/**
 * The document told again as directly as can be, by other means than the class: sets of columns, all
 * orders of levels one by one, whole states kept for each act. Slow, and only for comparing.
 */
final class Model implements Calls {
    /** All that acts change; copied whole for each act. */
    static final class State {
        int[] x = new int[0];
        int[] width = new int[0];
        int[] delay = new int[0];
        int[][] pan = {{0, 0, 1}};
        List<int[]> switches = new ArrayList<>();

        State copy() {
            State s = new State();
            s.x = x.clone();
            s.width = width.clone();
            s.delay = delay.clone();
            s.pan = new int[pan.length][];
            for (int i = 0; i < pan.length; i++) {
                s.pan[i] = pan[i].clone();
            }
            s.switches = new ArrayList<>(switches);
            return s;
        }
    }

    StringBuilder text = new StringBuilder();
    List<List<Integer>> sheets = new ArrayList<>();
    State now = new State();
    ArrayDeque<State> before = new ArrayDeque<>();
    State[] kept = new State[2];
    List<int[]> seen = new ArrayList<>();
    long seed = 0;

    int drawings() {
        return now.x.length;
    }

    int levels() {
        return sheets.size();
    }

    boolean frame(int f) {
        return f >= 0 && f <= 47;
    }

    boolean window(int c) {
        return c >= 0 && c <= 9;
    }

    boolean isLevel(int l) {
        return l >= 0 && l < levels();
    }

    boolean isDrawing(int d) {
        return d >= 0 && d < drawings();
    }

    // ---- the reel

    @Override public int write(int letter) {
        if (letter < 0 || letter > 255) return -2;
        if (text.length() == 80) return -4;
        text.append((char) letter);
        return text.length();
    }

    @Override public int wipe() {
        int n = text.length();
        text.setLength(0);
        return n;
    }

    /** Reading downwards; each method leaves at on the first letter it does not take, or sets bad. */
    static final class Parse {
        final String s;
        int at = 0;
        boolean bad = false;
        List<int[]> drawn = new ArrayList<>();
        List<List<Integer>> sheets = new ArrayList<>();

        Parse(String s) {
            this.s = s;
        }

        boolean more() {
            return at < s.length();
        }

        int one(String allowed) {
            if (bad || !more() || allowed.indexOf(s.charAt(at)) < 0) {
                bad = true;
                return -1;
            }
            return s.charAt(at++);
        }

        void reel() {
            one("K");
            while (!bad && more() && s.charAt(at) == 'd' && drawn.size() < 6) {
                at++;
                int x = one("0123456789") - '0';
                int w = one("12345") - '0';
                drawn.add(new int[] {x, w});
            }
            while (!bad && more()) {
                if (sheets.size() == 4) {
                    bad = true;
                    return;
                }
                one("v");
                List<Integer> sheet = items(0);
                one(".");
                sheets.add(sheet);
            }
        }

        List<Integer> items(int depth) {
            List<Integer> all = new ArrayList<>();
            while (!bad && more() && s.charAt(at) != '.' && s.charAt(at) != ')') {
                all.addAll(item(depth));
            }
            return all;
        }

        List<Integer> item(int depth) {
            String letters = "abcdef".substring(0, drawn.size());
            int letter = one(letters + "-" + (depth < 2 ? "(" : ""));
            List<Integer> told = new ArrayList<>();
            if (letter == '(') {
                List<Integer> inner = items(depth + 1);
                if (inner.isEmpty()) bad = true;
                one(")");
                int k = one("23456789") - '0';
                for (int i = 0; !bad && i < k; i++) told.addAll(inner);
            } else {
                int n = one("123456789") - '0';
                for (int i = 0; !bad && i < n; i++) told.add(letter == '-' ? -9 : letter - 'a');
            }
            return told;
        }
    }

    @Override public int fault() {
        Parse p = new Parse(text.toString());
        p.reel();
        return p.bad ? p.at : -9;
    }

    @Override public int reel() {
        if (fault() != -9) return -3;
        Parse p = new Parse(text.toString());
        p.reel();
        sheets = new ArrayList<>();
        for (List<Integer> s : p.sheets) sheets.add(new ArrayList<>(s.subList(0, Math.min(48, s.size()))));
        now = new State();
        now.x = p.drawn.stream().mapToInt(d -> d[0]).toArray();
        now.width = p.drawn.stream().mapToInt(d -> d[1]).toArray();
        now.delay = new int[levels()];
        now.pan = new int[levels() + 1][];
        for (int i = 0; i < now.pan.length; i++) now.pan[i] = new int[] {0, 0, 1};
        before.clear();
        kept = new State[2];
        return levels();
    }

    @Override public int drawing(int d, int what) {
        if (!isDrawing(d)) return -1;
        if (what < 0 || what > 2) return -2;
        return what == 0 ? now.x[d] : what == 1 ? now.width[d] : most(d);
    }

    int most(int d) {
        int most = 0;
        for (int f = 0; f < 48; f++) {
            int n = 0;
            for (int l = 0; l < levels(); l++) if (exposedOn(l, f) == d) n++;
            most = Math.max(most, n);
        }
        return most;
    }

    int cels() {
        int sum = 0;
        for (int d = 0; d < drawings(); d++) sum += most(d);
        return sum;
    }

    @Override public int level(int l, int what) {
        if (!isLevel(l)) return -1;
        if (what < 0 || what > 3) return -2;
        if (what == 0) return sheets.get(l).size();
        if (what == 1) return now.delay[l];
        return what == 2 ? shortOf(l) : best(l);
    }

    int best(int l) {
        State was = now;
        int[] cels = new int[10];
        for (int v = 0; v < 10; v++) {
            now = was.copy();
            now.delay[l] = v;
            cels[v] = cels();
        }
        now = was;
        int least = Arrays.stream(cels).min().getAsInt();
        for (int v = 0; v < 10; v++) if (cels[v] == least) return v;
        return -100;
    }

    private final Map<String, Integer> shortFound = new HashMap<>();

    int shortOf(int l) {
        StringBuilder s = new StringBuilder();
        for (int d : sheets.get(l)) s.append(d < 0 ? '-' : (char) ('a' + d));
        return fewest(s.toString(), 2);
    }

    /** Fewest letters for frames told as letters, ( no deeper than depth. */
    int fewest(String s, int depth) {
        if (s.isEmpty()) return 0;
        String key = depth + s;
        Integer known = shortFound.get(key);
        if (known != null) return known;
        int least = Integer.MAX_VALUE;
        for (int n = 1; n <= s.length(); n++) {
            int first = asOne(s.substring(0, n), depth);
            if (first >= 0) least = Math.min(least, first + fewest(s.substring(n), depth));
        }
        if (shortFound.size() > 200000) shortFound.clear();
        shortFound.put(key, least);
        return least;
    }

    /** Fewest letters of one item for these frames; -1 if there is none. */
    int asOne(String s, int depth) {
        if (s.length() <= 9 && s.chars().distinct().count() == 1) return 2;
        int least = -1;
        for (int k = 2; k <= 9 && depth > 0; k++) {
            if (s.length() % k != 0) continue;
            String part = s.substring(0, s.length() / k);
            if (!part.repeat(k).equals(s)) continue;
            int n = 3 + fewest(part, depth - 1);
            if (least < 0 || n < least) least = n;
        }
        return least;
    }

    int whereIs(int pan, int f) {
        int steps = 0;
        for (int g = 1; g <= f; g++) if (g % now.pan[pan][2] == 0) steps++;
        return now.pan[pan][0] + steps * now.pan[pan][1];
    }

    @Override public int where(int l, int f) {
        if (l != 9 && !isLevel(l)) return -1;
        if (!frame(f)) return -2;
        return 1000 + whereIs(l == 9 ? levels() : l, f);
    }

    // ---- acts

    void act() {
        before.addLast(now.copy());
        if (before.size() > 14) before.removeFirst();
    }

    @Override public int redraw(int d, int x, int w) {
        if (!isDrawing(d)) return -1;
        if (x < 0 || x > 9 || w < 1 || w > 5) return -2;
        act();
        int was = 10 * now.x[d] + now.width[d];
        now.x[d] = x;
        now.width[d] = w;
        return was;
    }

    @Override public int delay(int l, int v) {
        if (!isLevel(l)) return -1;
        if (v < 0 || v > 9) return -2;
        act();
        int was = now.delay[l];
        now.delay[l] = v;
        return was;
    }

    @Override public int pan(int l, int start, int by, int every) {
        if (l != 9 && !isLevel(l)) return -1;
        if (start < -9 || start > 9 || by < -3 || by > 3 || every < 1 || every > 9) return -2;
        act();
        now.pan[l == 9 ? levels() : l] = new int[] {start, by, every};
        return where(l, 47);
    }

    String padded(int order) {
        StringBuilder s = new StringBuilder(Integer.toString(order));
        while (s.length() < levels()) s.insert(0, '0');
        return s.toString();
    }

    boolean isOrder(int order) {
        if (order < 0) return false;
        if (levels() == 0) return order == 0;
        char[] s = padded(order).toCharArray();
        Arrays.sort(s);
        return new String(s).equals("0123".substring(0, levels()));
    }

    @Override public int swap(int f, int order) {
        if (!frame(f) || !isOrder(order)) return -2;
        if (now.switches.size() == 4) return -4;
        act();
        now.switches.add(new int[] {f, order});
        return now.switches.size();
    }

    @Override public int back() {
        if (now.switches.isEmpty()) return -3;
        act();
        now.switches.remove(now.switches.size() - 1);
        return now.switches.size();
    }

    @Override public int undo() {
        if (before.isEmpty()) return -3;
        now = before.removeLast();
        return before.size();
    }

    // ---- asked

    int exposedOn(int l, int f) {
        int g = f - now.delay[l];
        List<Integer> s = sheets.get(l);
        return g < 0 || g >= s.size() ? -9 : s.get(g);
    }

    @Override public int exposed(int l, int f) {
        if (!isLevel(l)) return -1;
        if (!frame(f)) return -2;
        return exposedOn(l, f);
    }

    @Override public int order(int f) {
        if (!frame(f)) return -2;
        for (int g = f; g >= 0; g--) {
            for (int i = now.switches.size() - 1; i >= 0; i--) {
                if (now.switches.get(i)[0] == g) return now.switches.get(i)[1];
            }
        }
        return new int[] {0, 0, 1, 12, 123}[levels()];
    }

    /** What is seen of the levels whose bits are set, without one drawing. */
    int seenOf(int bits, int f, int c, int rubbed) {
        String order = levels() == 0 ? "" : padded(order(f));
        for (char o : order.toCharArray()) {
            int l = o - '0';
            int d = exposedOn(l, f);
            if ((bits >> l & 1) == 0 || d == -9 || d == rubbed) continue;
            for (int i = 0; i < now.width[d]; i++) {
                if (now.x[d] + whereIs(l, f) + i == c + whereIs(levels(), f)) return 10 * l + d;
            }
        }
        return -9;
    }

    @Override public int look(int f, int c) {
        if (!frame(f) || !window(c)) return -2;
        return seenOf(15, f, c, -1);
    }

    @Override public int ask(int what) {
        if (what == 1) return cels();
        if (what != 0) return -2;
        int n = 0;
        for (int f = 1; f < 48; f++) {
            String a = "";
            String b = "";
            for (int c = 0; c < 10; c++) {
                a += look(f, c) + " ";
                b += look(f - 1, c) + " ";
            }
            if (!a.equals(b)) n++;
        }
        return n;
    }

    @Override public int judge(int n, long row) {
        if (n < 1 || n > 4 || row < 0 || Long.toString(row).length() > 4 * n) return -2;
        String s = "0".repeat(4 * n - Long.toString(row).length()) + row;
        State was = now;
        now = now.copy();
        ArrayDeque<State> actsWere = new ArrayDeque<>(before);
        int place = -9;
        for (int i = 0; i < n && place == -9; i++) {
            if (!so(s.substring(4 * i, 4 * i + 4))) place = i;
        }
        now = was;
        before = actsWere;
        return place;
    }

    boolean so(String s) {
        int a = s.charAt(1) - '0';
        int b = s.charAt(2) - '0';
        int c = s.charAt(3) - '0';
        int f = Integer.parseInt(s.substring(1, 3));
        switch (s.charAt(0)) {
            case '1': return b == 0 && delay(a, c) >= 0;
            case '2': return exposed(c, f) >= 0;
            case '3': return look(f, c) >= 0;
            case '4': return redraw(a, b, c) >= 0;
            case '5': return a == 0 && cels() == 10 * b + c;
            case '6': return frame(f) && isLevel(c) && padded(order(f)).charAt(0) == '0' + c;
            case '7': return s.equals("7000") && back() >= 0;
            default: return false;
        }
    }

    // ---- seen

    @Override public int see(int f, int c, int v) {
        if (!frame(f) || !window(c) || (v != -9 && (v < 0 || v > 39))) return -2;
        if (seen.size() == 6) return -4;
        seen.add(new int[] {f, c, v});
        return seen.size();
    }

    @Override public int unsee() {
        int n = seen.size();
        seen.clear();
        return n;
    }

    @Override public int which() {
        int bits = 0;
        for (int d = 0; d < drawings(); d++) {
            boolean all = true;
            for (int[] s : seen) all &= seenOf(15, s[0], s[1], d) == s[2];
            if (all) bits += 1 << d;
        }
        return bits;
    }

    // ---- shares, chances

    int covered(int bits) {
        int n = 0;
        for (int f = 0; f < 24; f++) {
            for (int c = 0; c < 10; c++) if (seenOf(bits, f, c, -1) != -9) n++;
        }
        return n;
    }

    static int part(long above, long below, boolean upper) {
        for (long g = below; g > 1; g--) {
            if (above % g == 0 && below % g == 0) {
                above /= g;
                below /= g;
            }
        }
        return (int) (upper ? above : above == 0 ? 1 : below);
    }

    void orders(List<Integer> left, List<Integer> come, List<List<Integer>> all) {
        if (left.isEmpty()) all.add(new ArrayList<>(come));
        for (int i = 0; i < left.size(); i++) {
            List<Integer> rest = new ArrayList<>(left);
            come.add(rest.remove(i));
            orders(rest, come, all);
            come.remove(come.size() - 1);
        }
    }

    @Override public int share(int l, boolean upper) {
        if (!isLevel(l)) return -1;
        int[] by = new int[16];
        for (int b = 0; b < 1 << levels(); b++) by[b] = covered(b);
        List<Integer> left = new ArrayList<>();
        for (int i = 0; i < levels(); i++) left.add(i);
        List<List<Integer>> all = new ArrayList<>();
        orders(left, new ArrayList<>(), all);
        long sum = 0;
        for (List<Integer> o : all) {
            int bits = 0;
            for (int i : o) {
                if (i == l) sum += by[bits | 1 << i] - by[bits];
                bits |= 1 << i;
            }
        }
        return part(sum, all.size(), upper);
    }

    @Override public int lost(int f, int c, int x, boolean upper) {
        if (!frame(f) || !window(c) || x < 0 || x > 10) return -2;
        long above = 0;
        for (int b = 0; b < 1 << levels(); b++) {
            long p = 1;
            for (int l = 0; l < levels(); l++) p *= (b >> l & 1) == 1 ? 10 - x : x;
            if (seenOf(b, f, c, -1) != -9) above += p;
        }
        return part(above, (long) Math.pow(10, levels()), upper);
    }

    @Override public long seed(long v) {
        long was = seed;
        seed = v;
        return was;
    }

    @Override public int looks(int m) {
        if (m < 1 || m > 40) return -2;
        int n = 0;
        for (int i = 0; i < m; i++) {
            seed = seed * 6364136223846793005L + 1442695040888963407L;
            int v = (int) (seed >>> 33);
            if (look(v % 48, v / 48 % 10) != -9) n++;
        }
        return n;
    }

    // ---- places to keep in

    @Override public int keep(int slot) {
        if (slot != 0 && slot != 1) return -1;
        kept[slot] = now.copy();
        return now.switches.size();
    }

    @Override public int again(int slot) {
        if (slot != 0 && slot != 1) return -1;
        if (kept[slot] == null) return -3;
        now = kept[slot].copy();
        before.clear();
        return now.switches.size();
    }

    @Override public int count(int what) {
        List<Integer> all = List.of(text.length(), drawings(), levels(), now.switches.size(), before.size(), seen.size());
        return what < 0 || what > 5 ? -2 : all.get(what);
    }

    List<Integer> allOrders() {
        List<Integer> found = new ArrayList<>();
        for (int o = 0; o <= 9999; o++) if (isOrder(o)) found.add(o);
        return found;
    }
}
