/**
 * A desk of drawn pictures: drawings on levels, exposed by sheets, panned, delayed, put in order, and
 * what is seen of them. The document ../shared/DOC.md says what each call answers.
 *
 * The face only looks at what it is told and refuses; the classes inside hold what there is (Reel,
 * Setting, Acts, Sightings), read it (Reader) and answer questions about it (Scene, Shortest).
 */
public final class CelSheets {
    public static final int UNKNOWN = -1, OUTSIDE = -2, STATE = -3, FULL = -4, NONE = -9;

    private static final int FRAMES = 48;
    private static final int WINDOWS = 10;
    private static final int MOST_LETTERS = 80;
    private static final int MOST_DRAWINGS = 6;
    private static final int MOST_LEVELS = 4;
    private static final int MOST_SWITCHES = 4;
    private static final int MOST_ACTS = 14;
    private static final int MOST_SEEN = 6;
    private static final int MOST_LOOKS = 40;
    private static final int MOST_DOINGS = 4;
    private static final int MOST_DELAY = 9;
    private static final int MOST_WIDTH = 5;
    private static final int MOST_DEPTH = 2;
    private static final int SLOTS = 2;
    private static final int SHARED_FRAMES = 24;
    /** What callers say for the camera, and where its pan lies among those of the levels. */
    private static final int CAMERA = 9;
    private static final int CAMERA_PAN = 4;
    private static final int PANS = 5;
    /** Added to where a pan is, so that no answer looks like a refusal. */
    private static final int WHERE_BASE = 1000;
    /** No drawing is rubbed out. */
    private static final int NOT_RUBBED = -1;
    private static final long SEED_TIMES = 6364136223846793005L;
    private static final long SEED_PLUS = 1442695040888963407L;
    private static final int[] TENS = {1, 10, 100, 1000, 10000};

    private final int[] text = new int[MOST_LETTERS];
    private int textLength;
    private final Reader reader = new Reader();
    private final Scene scene = new Scene();
    private final Reel told = scene.reel;
    private final Setting now = scene.setting;
    private final Acts acts = new Acts();
    private final Sightings sightings = new Sightings();
    private final Setting spare = new Setting();
    private final Setting firstKept = new Setting();
    private final Setting secondKept = new Setting();
    private final boolean[] isKept = new boolean[SLOTS];
    private long seedNow;

    public CelSheets() {
    }

    // ---- the reel

    public int write(int letter) {
        if (letter < 0 || letter > 255) {
            return OUTSIDE;
        }
        if (textLength >= MOST_LETTERS) {
            return FULL;
        }
        text[textLength] = letter;
        textLength++;
        return textLength;
    }

    public int wipe() {
        int was = textLength;
        textLength = 0;
        return was;
    }

    public int fault() {
        return reader.firstFault(text, textLength);
    }

    public int reel() {
        if (reader.firstFault(text, textLength) != NONE) {
            return STATE;
        }
        told.copyFrom(reader.draft);
        now.beginWith(told);
        scene.forgetShorts();
        acts.clear();
        for (int i = 0; i < SLOTS; i++) {
            isKept[i] = false;
        }
        return told.levels;
    }

    public int drawing(int drawing, int what) {
        if (!isDrawing(drawing)) {
            return UNKNOWN;
        }
        switch (what) {
            case 0:
                return now.xs[drawing];
            case 1:
                return now.widths[drawing];
            case 2:
                return scene.mostLevelsOf(drawing);
            default:
                return OUTSIDE;
        }
    }

    public int level(int level, int what) {
        if (!isLevel(level)) {
            return UNKNOWN;
        }
        switch (what) {
            case 0:
                return told.longs[level];
            case 1:
                return now.delays[level];
            case 2:
                return scene.shortOf(level);
            case 3:
                return scene.bestOf(level);
            default:
                return OUTSIDE;
        }
    }

    public int where(int level, int f) {
        if (!hasPan(level)) {
            return UNKNOWN;
        }
        if (!isFrame(f)) {
            return OUTSIDE;
        }
        return WHERE_BASE + now.panAt(panOf(level), f);
    }

    // ---- acts

    public int redraw(int drawing, int x, int width) {
        if (!isDrawing(drawing)) {
            return UNKNOWN;
        }
        if (x < 0 || x > 9 || width < 1 || width > MOST_WIDTH) {
            return OUTSIDE;
        }
        int oldX = now.xs[drawing];
        int oldWidth = now.widths[drawing];
        acts.add(Acts.REDRAWN, drawing, oldX, oldWidth, 0);
        now.xs[drawing] = x;
        now.widths[drawing] = width;
        return 10 * oldX + oldWidth;
    }

    public int delay(int level, int v) {
        if (!isLevel(level)) {
            return UNKNOWN;
        }
        if (v < 0 || v > MOST_DELAY) {
            return OUTSIDE;
        }
        int old = now.delays[level];
        acts.add(Acts.DELAYED, level, old, 0, 0);
        now.delays[level] = v;
        return old;
    }

    public int pan(int level, int start, int by, int every) {
        if (!hasPan(level)) {
            return UNKNOWN;
        }
        if (start < -9 || start > 9 || by < -3 || by > 3 || every < 1 || every > 9) {
            return OUTSIDE;
        }
        int whose = panOf(level);
        acts.add(Acts.PANNED, whose, now.starts[whose], now.bys[whose], now.everies[whose]);
        now.tellPan(whose, start, by, every);
        return WHERE_BASE + now.panAt(whose, FRAMES - 1);
    }

    public int swap(int f, int order) {
        if (!isFrame(f) || !scene.isOrder(order)) {
            return OUTSIDE;
        }
        if (now.switches >= MOST_SWITCHES) {
            return FULL;
        }
        acts.add(Acts.SWITCHED, 0, 0, 0, 0);
        now.addSwitch(f, order);
        return now.switches;
    }

    public int back() {
        int last = now.switches - 1;
        if (last < 0) {
            return STATE;
        }
        acts.add(Acts.WENT_BACK, 0, now.switchFrames[last], now.switchOrders[last], 0);
        now.dropSwitch();
        return now.switches;
    }

    public int undo() {
        if (acts.size == 0) {
            return STATE;
        }
        acts.takeBackLast(now);
        return acts.size;
    }

    // ---- asked

    public int exposed(int level, int f) {
        if (!isLevel(level)) {
            return UNKNOWN;
        }
        if (!isFrame(f)) {
            return OUTSIDE;
        }
        return scene.drawingOn(level, f);
    }

    public int order(int f) {
        if (!isFrame(f)) {
            return OUTSIDE;
        }
        return scene.orderAt(f);
    }

    public int look(int f, int c) {
        if (!isFrame(f) || !isWindow(c)) {
            return OUTSIDE;
        }
        return scene.seenAt(f, c, NOT_RUBBED);
    }

    public int ask(int what) {
        switch (what) {
            case 0:
                return scene.changes();
            case 1:
                return scene.cels();
            default:
                return OUTSIDE;
        }
    }

    public int judge(int n, long row) {
        if (n < 1 || n > MOST_DOINGS || row < 0) {
            return OUTSIDE;
        }
        long unit = 1;
        for (int i = 0; i < n; i++) {
            unit *= 10000;
        }
        if (row >= unit) {
            return OUTSIDE;
        }
        spare.copyFrom(now);
        int place = firstThatCanNotBe(n, row);
        now.copyFrom(spare);
        return place;
    }

    // ---- seen

    public int see(int f, int c, int v) {
        if (!isFrame(f) || !isWindow(c) || (v != NONE && (v < 0 || v > 39))) {
            return OUTSIDE;
        }
        if (sightings.size >= MOST_SEEN) {
            return FULL;
        }
        sightings.add(f, c, v);
        return sightings.size;
    }

    public int unsee() {
        int was = sightings.size;
        sightings.clear();
        return was;
    }

    public int which() {
        int found = 0;
        for (int d = 0; d < told.drawings; d++) {
            if (sightings.allSoWithout(d, scene)) {
                found |= 1 << d;
            }
        }
        return found;
    }

    // ---- shares, chances

    public int share(int level, boolean upper) {
        if (!isLevel(level)) {
            return UNKNOWN;
        }
        return fractionPart(scene.shareInTwelfths(level), 12, upper);
    }

    public int lost(int f, int c, int x, boolean upper) {
        if (!isFrame(f) || !isWindow(c) || x < 0 || x > 10) {
            return OUTSIDE;
        }
        int covering = scene.levelsCovering(f, c);
        int below = 1;
        int allLost = 1;
        for (int i = 0; i < covering; i++) {
            below *= 10;
            allLost *= x;
        }
        return fractionPart(below - allLost, below, upper);
    }

    public long seed(long v) {
        long was = seedNow;
        seedNow = v;
        return was;
    }

    public int looks(int m) {
        if (m < 1 || m > MOST_LOOKS) {
            return OUTSIDE;
        }
        int found = 0;
        for (int i = 0; i < m; i++) {
            seedNow = seedNow * SEED_TIMES + SEED_PLUS;
            int v = (int) (seedNow >>> 33);
            if (scene.seenAt(v % FRAMES, v / FRAMES % WINDOWS, NOT_RUBBED) != NONE) {
                found++;
            }
        }
        return found;
    }

    // ---- places to keep in

    public int keep(int slot) {
        if (slot < 0 || slot >= SLOTS) {
            return UNKNOWN;
        }
        keptIn(slot).copyFrom(now);
        isKept[slot] = true;
        return now.switches;
    }

    public int again(int slot) {
        if (slot < 0 || slot >= SLOTS) {
            return UNKNOWN;
        }
        if (!isKept[slot]) {
            return STATE;
        }
        now.copyFrom(keptIn(slot));
        acts.clear();
        return now.switches;
    }

    public int count(int what) {
        switch (what) {
            case 0:
                return textLength;
            case 1:
                return told.drawings;
            case 2:
                return told.levels;
            case 3:
                return now.switches;
            case 4:
                return acts.size;
            case 5:
                return sightings.size;
            default:
                return OUTSIDE;
        }
    }

    // ---- helpers of the face

    private boolean isDrawing(int drawing) {
        return drawing >= 0 && drawing < told.drawings;
    }

    private boolean isLevel(int level) {
        return level >= 0 && level < told.levels;
    }

    private boolean hasPan(int level) {
        return level == CAMERA || isLevel(level);
    }

    private static int panOf(int level) {
        return level == CAMERA ? CAMERA_PAN : level;
    }

    private static boolean isFrame(int f) {
        return f >= 0 && f < FRAMES;
    }

    private static boolean isWindow(int c) {
        return c >= 0 && c < WINDOWS;
    }

    private Setting keptIn(int slot) {
        return slot == 0 ? firstKept : secondKept;
    }

    private int firstThatCanNotBe(int n, long row) {
        long unit = 1;
        for (int i = 1; i < n; i++) {
            unit *= 10000;
        }
        for (int i = 0; i < n; i++) {
            if (unit < 1 || !comesTrue((int) (row / unit % 10000))) {
                return i;
            }
            unit /= 10000;
        }
        return NONE;
    }

    /** A doing of four figures is done or asked; whether it can be, or is so. */
    private boolean comesTrue(int doing) {
        int second = doing / 100 % 10;
        int third = doing / 10 % 10;
        int last = doing % 10;
        int f = doing / 10 % 100;
        switch (doing / 1000) {
            case 1:
                return third == 0 && delayForNow(second, last);
            case 2:
                return isFrame(f) && isLevel(last) && scene.drawingOn(last, f) != NONE;
            case 3:
                return isFrame(f) && scene.seenAt(f, last, NOT_RUBBED) != NONE;
            case 4:
                return redrawForNow(second, third, last);
            case 5:
                return second == 0 && scene.cels() == doing % 100;
            case 6:
                return isFrame(f) && isLevel(last) && scene.levelInOrder(scene.orderAt(f), 0) == last;
            case 7:
                return doing == 7000 && now.dropSwitch();
            default:
                return false;
        }
    }

    private boolean delayForNow(int level, int v) {
        if (!isLevel(level)) {
            return false;
        }
        now.delays[level] = v;
        return true;
    }

    private boolean redrawForNow(int drawing, int x, int width) {
        if (!isDrawing(drawing) || width < 1 || width > MOST_WIDTH) {
            return false;
        }
        now.xs[drawing] = x;
        now.widths[drawing] = width;
        return true;
    }

    private static int fractionPart(int above, int below, boolean upper) {
        int part = upper ? above : below;
        int common = commonDivisor(above, below);
        return common < 1 ? part : part / common;
    }

    private static int commonDivisor(int a, int b) {
        int high = a;
        int low = b;
        // Euclid's steps on ints are always fewer than 50
        for (int i = 0; i < 64 && low != 0; i++) {
            int rest = high % low;
            high = low;
            low = rest;
        }
        return high;
    }

    /** What a text tells: the drawings as they are at first, and the sheet of each level. */
    private static final class Reel {
        int drawings;
        int levels;
        final int[] firstXs = new int[MOST_DRAWINGS];
        final int[] firstWidths = new int[MOST_DRAWINGS];
        final int[] longs = new int[MOST_LEVELS];
        /** FRAMES of each level: a drawing, or NONE. */
        final int[] sheets = new int[MOST_LEVELS * FRAMES];

        void clear() {
            drawings = 0;
            levels = 0;
        }

        void addDrawing(int x, int width) {
            if (drawings < MOST_DRAWINGS) {
                firstXs[drawings] = x;
                firstWidths[drawings] = width;
                drawings++;
            }
        }

        void addLevel() {
            if (levels < MOST_LEVELS) {
                longs[levels] = 0;
                levels++;
            }
        }

        /** How many frames the level told last has so far. */
        int lastLong() {
            return levels < 1 ? 0 : longs[levels - 1];
        }

        /** The level told last holds a drawing (or NONE) for n frames more. */
        void hold(int drawing, int n) {
            for (int i = 0; i < n; i++) {
                append(drawing);
            }
        }

        /** The level told last tells its frames from start on so many times in all. */
        void repeatFrom(int start, int times) {
            int end = lastLong();
            int sheet = (levels - 1) * FRAMES;
            if (sheet < 0 || start < 0) {
                return;
            }
            for (int k = 1; k < times; k++) {
                for (int i = start; i < end; i++) {
                    append(sheets[sheet + i]);
                }
            }
        }

        private void append(int drawing) {
            int level = levels - 1;
            // what is beyond the last frame is cut off
            if (level >= 0 && longs[level] < FRAMES) {
                sheets[level * FRAMES + longs[level]] = drawing;
                longs[level]++;
            }
        }

        void copyFrom(Reel other) {
            drawings = other.drawings;
            levels = other.levels;
            System.arraycopy(other.firstXs, 0, firstXs, 0, MOST_DRAWINGS);
            System.arraycopy(other.firstWidths, 0, firstWidths, 0, MOST_DRAWINGS);
            System.arraycopy(other.longs, 0, longs, 0, MOST_LEVELS);
            System.arraycopy(other.sheets, 0, sheets, 0, MOST_LEVELS * FRAMES);
        }
    }

    /** Reads letters one by one into a reel, up to the first by which they can be none. */
    private static final class Reader {
        private static final int BEGIN = 0;
        private static final int DRAWINGS = 1;
        private static final int X = 2;
        private static final int WIDTH = 3;
        private static final int LEVELS = 4;
        private static final int ITEMS = 5;
        private static final int FIRST_ITEM = 6;
        private static final int HOLD = 7;
        private static final int TIMES = 8;

        final Reel draft = new Reel();
        private int awaited;
        private int depth;
        private int x;
        private int held;
        /** Of each ( that is open, how many frames came ahead of it. */
        private final int[] openedAt = new int[MOST_DEPTH];

        int firstFault(int[] letters, int length) {
            draft.clear();
            awaited = BEGIN;
            depth = 0;
            for (int i = 0; i < length && i < letters.length; i++) {
                if (!takes(letters[i])) {
                    return i;
                }
            }
            return awaited == DRAWINGS || awaited == LEVELS ? NONE : length;
        }

        private boolean takes(int letter) {
            switch (awaited) {
                case BEGIN:
                    awaited = DRAWINGS;
                    return letter == 'K';
                case DRAWINGS:
                    return letter == 'd' ? takesDrawing() : takesLevel(letter);
                case X:
                    x = letter - '0';
                    awaited = WIDTH;
                    return x >= 0 && x <= 9;
                case WIDTH:
                    return takesWidth(letter - '0');
                case LEVELS:
                    return takesLevel(letter);
                case ITEMS:
                    return takesItemOrEnd(letter);
                case FIRST_ITEM:
                    return takesItem(letter);
                case HOLD:
                    return takesHold(letter - '0');
                case TIMES:
                    return takesTimes(letter - '0');
                default:
                    return false;
            }
        }

        private boolean takesDrawing() {
            awaited = X;
            return draft.drawings < MOST_DRAWINGS;
        }

        private boolean takesWidth(int width) {
            if (width < 1 || width > MOST_WIDTH) {
                return false;
            }
            draft.addDrawing(x, width);
            awaited = DRAWINGS;
            return true;
        }

        private boolean takesLevel(int letter) {
            if (letter != 'v' || draft.levels >= MOST_LEVELS) {
                return false;
            }
            draft.addLevel();
            awaited = ITEMS;
            return true;
        }

        private boolean takesItemOrEnd(int letter) {
            if (letter == '.') {
                awaited = LEVELS;
                return depth == 0;
            }
            if (letter == ')') {
                awaited = TIMES;
                return depth > 0;
            }
            return takesItem(letter);
        }

        private boolean takesItem(int letter) {
            if (letter == '(') {
                return takesOpening();
            }
            int drawing = letter - 'a';
            if (letter == '-') {
                held = NONE;
            } else if (drawing >= 0 && drawing < draft.drawings) {
                held = drawing;
            } else {
                return false;
            }
            awaited = HOLD;
            return true;
        }

        private boolean takesOpening() {
            if (depth < 0 || depth >= MOST_DEPTH) {
                return false;
            }
            openedAt[depth] = draft.lastLong();
            depth++;
            awaited = FIRST_ITEM;
            return true;
        }

        private boolean takesHold(int n) {
            if (n < 1 || n > 9) {
                return false;
            }
            draft.hold(held, n);
            awaited = ITEMS;
            return true;
        }

        private boolean takesTimes(int k) {
            if (k < 2 || k > 9 || depth < 1 || depth > MOST_DEPTH) {
                return false;
            }
            depth--;
            draft.repeatFrom(openedAt[depth], k);
            awaited = ITEMS;
            return true;
        }
    }

    /** All that acts change, and that a slot keeps. */
    private static final class Setting {
        final int[] xs = new int[MOST_DRAWINGS];
        final int[] widths = new int[MOST_DRAWINGS];
        final int[] delays = new int[MOST_LEVELS];
        final int[] starts = new int[PANS];
        final int[] bys = new int[PANS];
        final int[] everies = new int[PANS];
        int switches;
        final int[] switchFrames = new int[MOST_SWITCHES];
        final int[] switchOrders = new int[MOST_SWITCHES];

        Setting() {
            for (int i = 0; i < PANS; i++) {
                everies[i] = 1;
            }
        }

        void beginWith(Reel reel) {
            System.arraycopy(reel.firstXs, 0, xs, 0, MOST_DRAWINGS);
            System.arraycopy(reel.firstWidths, 0, widths, 0, MOST_DRAWINGS);
            for (int i = 0; i < MOST_LEVELS; i++) {
                delays[i] = 0;
            }
            for (int i = 0; i < PANS; i++) {
                tellPan(i, 0, 0, 1);
            }
            switches = 0;
        }

        void copyFrom(Setting other) {
            System.arraycopy(other.xs, 0, xs, 0, MOST_DRAWINGS);
            System.arraycopy(other.widths, 0, widths, 0, MOST_DRAWINGS);
            System.arraycopy(other.delays, 0, delays, 0, MOST_LEVELS);
            System.arraycopy(other.starts, 0, starts, 0, PANS);
            System.arraycopy(other.bys, 0, bys, 0, PANS);
            System.arraycopy(other.everies, 0, everies, 0, PANS);
            System.arraycopy(other.switchFrames, 0, switchFrames, 0, MOST_SWITCHES);
            System.arraycopy(other.switchOrders, 0, switchOrders, 0, MOST_SWITCHES);
            switches = other.switches;
        }

        void tellPan(int pan, int start, int by, int every) {
            starts[pan] = start;
            bys[pan] = by;
            everies[pan] = every;
        }

        int panAt(int pan, int f) {
            int every = everies[pan];
            return every < 1 ? starts[pan] : starts[pan] + bys[pan] * (f / every);
        }

        void addSwitch(int f, int order) {
            if (switches < MOST_SWITCHES) {
                switchFrames[switches] = f;
                switchOrders[switches] = order;
                switches++;
            }
        }

        /** Whether there was a switch to drop. */
        boolean dropSwitch() {
            if (switches < 1) {
                return false;
            }
            switches--;
            return true;
        }

        /** The switch that tells the order at a frame; less than 0, if none does. */
        int switchFor(int f) {
            int found = -1;
            for (int i = 0; i < switches; i++) {
                boolean begun = switchFrames[i] <= f;
                if (begun && (found < 0 || switchFrames[i] >= switchFrames[found])) {
                    found = i;
                }
            }
            return found;
        }
    }

    /** The row of acts, each with what it takes to undo it. */
    private static final class Acts {
        static final int REDRAWN = 0;
        static final int DELAYED = 1;
        static final int PANNED = 2;
        static final int SWITCHED = 3;
        static final int WENT_BACK = 4;
        /** A kind, whom it was done to, and up to three numbers as they were. */
        private static final int STRIDE = 5;

        int size;
        private final int[] row = new int[MOST_ACTS * STRIDE];

        void clear() {
            size = 0;
        }

        void add(int kind, int whom, int first, int second, int third) {
            if (size >= MOST_ACTS) {
                forgetFirst();
            }
            int at = size * STRIDE;
            row[at] = kind;
            row[at + 1] = whom;
            row[at + 2] = first;
            row[at + 3] = second;
            row[at + 4] = third;
            size++;
        }

        private void forgetFirst() {
            System.arraycopy(row, STRIDE, row, 0, (MOST_ACTS - 1) * STRIDE);
            size = MOST_ACTS - 1;
        }

        void takeBackLast(Setting setting) {
            if (size < 1) {
                return;
            }
            size--;
            int at = size * STRIDE;
            int whom = row[at + 1];
            switch (row[at]) {
                case REDRAWN:
                    setting.xs[whom] = row[at + 2];
                    setting.widths[whom] = row[at + 3];
                    break;
                case DELAYED:
                    setting.delays[whom] = row[at + 2];
                    break;
                case PANNED:
                    setting.tellPan(whom, row[at + 2], row[at + 3], row[at + 4]);
                    break;
                case SWITCHED:
                    setting.dropSwitch();
                    break;
                default:
                    setting.addSwitch(row[at + 2], row[at + 3]);
                    break;
            }
        }
    }

    /** What was seen, told ahead of the question which drawing was rubbed out. */
    private static final class Sightings {
        int size;
        private final int[] frames = new int[MOST_SEEN];
        private final int[] windows = new int[MOST_SEEN];
        private final int[] values = new int[MOST_SEEN];

        void clear() {
            size = 0;
        }

        void add(int f, int c, int v) {
            if (size < MOST_SEEN) {
                frames[size] = f;
                windows[size] = c;
                values[size] = v;
                size++;
            }
        }

        boolean allSoWithout(int drawing, Scene scene) {
            for (int i = 0; i < size; i++) {
                if (scene.seenAt(frames[i], windows[i], drawing) != values[i]) {
                    return false;
                }
            }
            return true;
        }
    }

    /** A reel in a setting: what is exposed, covered, seen, and what follows from that. */
    private static final class Scene {
        /** Also SHORT of an empty sheet, which costs nothing to find again. */
        private static final int NOT_YET = 0;

        final Reel reel = new Reel();
        final Setting setting = new Setting();
        private final Shortest shortest = new Shortest();
        /** SHORT of each level hangs on its sheet alone, and so is found once. */
        private final int[] shorts = new int[MOST_LEVELS];
        private final int[] view = new int[WINDOWS];
        private final int[] atOnce = new int[MOST_DRAWINGS];
        private final int[] most = new int[MOST_DRAWINGS];

        void forgetShorts() {
            for (int i = 0; i < MOST_LEVELS; i++) {
                shorts[i] = NOT_YET;
            }
        }

        int drawingOn(int level, int f) {
            int g = f - setting.delays[level];
            if (g < 0 || g >= reel.longs[level]) {
                return NONE;
            }
            return reel.sheets[level * FRAMES + g];
        }

        boolean isOrder(int order) {
            if (order < 0 || order >= TENS[reel.levels]) {
                return false;
            }
            int met = 0;
            for (int i = 0; i < reel.levels; i++) {
                met |= 1 << levelInOrder(order, i);
            }
            return met == (1 << reel.levels) - 1;
        }

        /** The level at a place of an order, counted from the top, of which there is one for each level. */
        int levelInOrder(int order, int place) {
            int below = reel.levels - 1 - place;
            return below < 0 || below >= TENS.length ? 0 : order / TENS[below] % 10;
        }

        int orderAt(int f) {
            int last = setting.switchFor(f);
            if (last >= 0) {
                return setting.switchOrders[last];
            }
            int order = 0;
            for (int i = 0; i < reel.levels; i++) {
                order = order * 10 + i;
            }
            return order;
        }

        private boolean covers(int level, int drawing, int f, int c) {
            if (drawing < 0 || drawing >= reel.drawings) {
                return false;
            }
            int left = setting.xs[drawing] + setting.panAt(level, f);
            int column = c + setting.panAt(CAMERA_PAN, f);
            return column >= left && column < left + setting.widths[drawing];
        }

        private boolean levelCovers(int level, int f, int c) {
            return covers(level, drawingOn(level, f), f, c);
        }

        /** What is seen if one drawing is never exposed. */
        int seenAt(int f, int c, int rubbed) {
            int order = orderAt(f);
            for (int i = 0; i < reel.levels; i++) {
                int level = levelInOrder(order, i);
                int drawing = level < reel.levels ? drawingOn(level, f) : NONE;
                if (drawing != rubbed && covers(level, drawing, f, c)) {
                    return 10 * level + drawing;
                }
            }
            return NONE;
        }

        int levelsCovering(int f, int c) {
            int covering = 0;
            for (int level = 0; level < reel.levels; level++) {
                if (levelCovers(level, f, c)) {
                    covering++;
                }
            }
            return covering;
        }

        int changes() {
            int found = 0;
            viewBecomes(0);
            for (int f = 1; f < FRAMES; f++) {
                if (viewBecomes(f)) {
                    found++;
                }
            }
            return found;
        }

        /** The view is that of a frame: whether it was another one. */
        private boolean viewBecomes(int f) {
            boolean other = false;
            for (int c = 0; c < WINDOWS; c++) {
                int seen = seenAt(f, c, NOT_RUBBED);
                other = other || seen != view[c];
                view[c] = seen;
            }
            return other;
        }

        int cels() {
            findMost();
            int sum = 0;
            for (int d = 0; d < reel.drawings; d++) {
                sum += most[d];
            }
            return sum;
        }

        int mostLevelsOf(int drawing) {
            findMost();
            return most[drawing];
        }

        private void findMost() {
            clearDrawings(most);
            for (int f = 0; f < FRAMES; f++) {
                clearDrawings(atOnce);
                for (int level = 0; level < reel.levels; level++) {
                    countDrawing(drawingOn(level, f));
                }
            }
        }

        private void countDrawing(int drawing) {
            if (drawing >= 0 && drawing < MOST_DRAWINGS) {
                atOnce[drawing]++;
                most[drawing] = Math.max(most[drawing], atOnce[drawing]);
            }
        }

        private static void clearDrawings(int[] row) {
            for (int d = 0; d < row.length; d++) {
                row[d] = 0;
            }
        }

        int shortOf(int level) {
            if (shorts[level] == NOT_YET) {
                shorts[level] = shortest.lettersFor(reel, level);
            }
            return shorts[level];
        }

        int bestOf(int level) {
            int was = setting.delays[level];
            int best = 0;
            int least = 0;
            for (int v = 0; v <= MOST_DELAY; v++) {
                setting.delays[level] = v;
                int needed = cels();
                if (v == 0 || needed < least) {
                    least = needed;
                    best = v;
                }
            }
            setting.delays[level] = was;
            return best;
        }

        /**
         * However the levels come, the first of those that cover a place is the one that makes it
         * seen, and each of them is as likely the first: so each has an equal part of the place.
         */
        int shareInTwelfths(int level) {
            int sum = 0;
            for (int f = 0; f < SHARED_FRAMES; f++) {
                for (int c = 0; c < WINDOWS; c++) {
                    int covering = levelCovers(level, f, c) ? levelsCovering(f, c) : 0;
                    sum += covering < 1 ? 0 : 12 / covering;
                }
            }
            return sum;
        }
    }

    /** The fewest letters of items that tell of a sheet's frames, found from its end to its beginning. */
    private static final class Shortest {
        private static final int SIDE = FRAMES + 1;
        private static final int MOST_FIGURE = 9;
        /** More letters than any sheet takes: there is no such item. */
        private static final int FAR = 1000;

        private int length;
        private final int[] frames = new int[FRAMES];
        /** like[p]: how many frames from here on are each like the one p behind it. */
        private final int[] like = new int[SIDE];
        /** plain[p]: letters for the next p frames without any (. */
        private final int[] plain = new int[SIDE];
        /** item[p]: letters of one item alone for the next p frames. */
        private final int[] item = new int[SIDE];
        /** once[SIDE * i + p]: letters for p frames from i on with ( no deeper than 1. */
        private final int[] once = new int[SIDE * SIDE];
        /** twice[i]: letters for all frames from i on with ( no deeper than 2. */
        private final int[] twice = new int[SIDE];

        int lettersFor(Reel reel, int level) {
            length = Math.min(FRAMES, reel.longs[level]);
            System.arraycopy(reel.sheets, level * FRAMES, frames, 0, length);
            for (int p = 0; p < SIDE; p++) {
                like[p] = 0;
            }
            twice[length] = 0;
            once[SIDE * length] = 0;
            for (int i = length - 1; i >= 0; i--) {
                findLike(i);
                findPlain(i);
                findItems(plain, 0, length - i);
                findOnce(i);
                findItems(once, SIDE * i, length - i);
                findTwice(i);
            }
            return twice[0];
        }

        private void findLike(int i) {
            for (int p = 1; i + p < length; p++) {
                like[p] = frames[i] == frames[i + p] ? like[p] + 1 : 0;
            }
        }

        private void findPlain(int i) {
            plain[0] = 0;
            int run = 0;
            for (int p = 1; i + p <= length; p++) {
                int g = i + p - 1;
                boolean goesOn = p > 1 && run < MOST_FIGURE && frames[g] == frames[g - 1];
                run = goesOn ? run + 1 : 1;
                plain[p] = goesOn ? plain[p - 1] : plain[p - 1] + 2;
            }
        }

        /** inner[at + p] is what the next p frames take within a (. */
        private void findItems(int[] inner, int at, int rest) {
            for (int p = 1; p <= rest; p++) {
                item[p] = p <= MOST_FIGURE && like[1] >= p - 1 ? 2 : FAR;
            }
            for (int p = 1; 2 * p <= rest; p++) {
                int looped = inner[at + p] + 3;
                for (int k = 2; k <= MOST_FIGURE && k * p <= rest && like[p] >= (k - 1) * p; k++) {
                    item[k * p] = Math.min(item[k * p], looped);
                }
            }
        }

        private void findOnce(int i) {
            int rest = length - i;
            int row = SIDE * i;
            once[row] = 0;
            for (int p = 1; p <= rest; p++) {
                once[row + p] = FAR;
            }
            for (int q = 1; q <= rest; q++) {
                int behind = SIDE * (i + q);
                for (int p = q; item[q] < FAR && p <= rest; p++) {
                    once[row + p] = Math.min(once[row + p], item[q] + once[behind + p - q]);
                }
            }
        }

        private void findTwice(int i) {
            twice[i] = FAR;
            for (int q = 1; i + q <= length; q++) {
                twice[i] = Math.min(twice[i], item[q] + twice[i + q]);
            }
        }
    }
}
