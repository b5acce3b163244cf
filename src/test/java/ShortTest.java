import java.util.ArrayList;
import java.util.HashMap;
import java.util.List;
import java.util.Map;

/**
 * SHORT by what it is, not by a search in a sheet: ITEMS are built up, by their number of letters, and it is
 * kept with how few of them each sheet was told.
 */
public final class ShortTest {
    private static final int FRAMES = 48, DEPTH = 2;

    /** ITEMS as they are told, and the frames that they tell of. */
    private record Told(String items, String frames) {
        Told then(Told next) {
            return new Told(items + next.items, frames + next.frames);
        }

        Told looped(int k) {
            return new Told("(" + items + ")" + k, frames.repeat(k));
        }
    }

    private static final Check check = new Check();

    public static void main(String[] args) {
        allItemsOf("ab", 8);
        allItemsOf("a-", 8);
        allSheetsOf("ab", 15);
        allSheetsOf("ab-", 10);
        check.end();
    }

    private static int shortOf(String items) {
        return Desk.of("Kd01d01v" + items + ".").level(0, 2);
    }

    // ---- all ITEMS of no more than so many letters

    private static void allItemsOf(String kinds, int most) {
        Map<String, Told> first = new HashMap<>();
        List<List<Told>> all = rows(kinds, most, DEPTH);
        // by their number of letters: the first that tells of a sheet has the fewest
        for (List<Told> row : all) {
            for (Told t : row) first.putIfAbsent(t.frames, t);
        }
        for (Told t : first.values()) {
            if (t.frames.length() <= FRAMES) check.due("SHORT of " + t.items, shortOf(t.items), t.items.length());
        }
    }

    /** For each number of letters all rows of ITEMS, ( no deeper than depth; place 0 is the empty row. */
    private static List<List<Told>> rows(String kinds, int most, int depth) {
        List<List<Told>> inner = depth > 0 ? rows(kinds, most - 3, depth - 1) : List.of();
        List<List<Told>> all = new ArrayList<>();
        all.add(List.of(new Told("", "")));
        for (int letters = 1; letters <= most; letters++) {
            List<Told> row = new ArrayList<>();
            for (int last = 2; last <= letters; last++) {
                List<Told> ends = items(kinds, last, inner);
                for (Told t : all.get(letters - last)) {
                    for (Told end : ends) row.add(t.then(end));
                }
            }
            all.add(row);
        }
        return all;
    }

    /** All single ITEMS of just so many letters. */
    private static List<Told> items(String kinds, int letters, List<List<Told>> inner) {
        List<Told> found = new ArrayList<>();
        for (int i = 0; letters == 2 && i < kinds.length(); i++) {
            String kind = kinds.substring(i, i + 1);
            for (int n = 1; n <= 9; n++) found.add(new Told(kind + n, kind.repeat(n)));
        }
        if (letters > 3 && letters - 3 < inner.size()) {
            for (Told t : inner.get(letters - 3)) {
                for (int k = 2; k <= 9; k++) found.add(t.looped(k));
            }
        }
        return found;
    }

    // ---- all sheets of no more than so many frames

    private static void allSheetsOf(String kinds, int most) {
        Map<String, Told> holds = new HashMap<>();
        for (Told t : items(kinds, 2, List.of())) keepFewer(holds, t, most);
        Map<String, Told> fewest = built(holds, most);
        for (int depth = 1; depth <= DEPTH; depth++) {
            Map<String, Told> items = new HashMap<>(holds);
            for (Told t : fewest.values()) {
                for (int k = 2; k <= 9; k++) {
                    if (t.frames.length() * k <= most) keepFewer(items, t.looped(k), most);
                }
            }
            fewest = built(items, most);
        }
        long sheets = 0;
        long power = 1;
        for (int n = 1; n <= most; n++) {
            power *= kinds.length();
            sheets += power;
        }
        check.due("sheets of up to " + most + " frames", fewest.size(), sheets);
        for (Told t : fewest.values()) check.due("SHORT of " + t.items, shortOf(t.items), t.items.length());
    }

    private static void keepFewer(Map<String, Told> by, Told t, int most) {
        if (t.frames.isEmpty() || t.frames.length() > most) return;
        Told was = by.get(t.frames);
        if (was == null || t.items.length() < was.items.length()) by.put(t.frames, t);
    }

    /** Of each sheet the fewest letters, each sheet made longer by each of these ITEMS, shorter sheets first. */
    private static Map<String, Told> built(Map<String, Told> items, int most) {
        Map<String, Told> fewest = new HashMap<>(items);
        for (int n = 1; n < most; n++) {
            for (Told t : List.copyOf(fewest.values())) {
                if (t.frames.length() != n) continue;
                for (Told next : items.values()) keepFewer(fewest, t.then(next), most);
            }
        }
        return fewest;
    }
}
