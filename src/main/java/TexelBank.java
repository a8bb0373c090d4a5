import java.util.Arrays;

/** Stores of places of ten kinds, the textures that lie in them, and a cache that their texels are fetched through. */
public final class TexelBank {
    public static final int NONE = -1;
    public static final int STRANGE = -1000000001;

    private static final int OUT = 1;
    private static final int OTHER = 2;
    private static final int NOTHING = 3;

    private static final int NO_TOKEN = 1;
    private static final int MISPLACED = 2;
    private static final int WRONG_NAME = 3;
    private static final int WRONG_NUMBER = 4;
    private static final int BEYOND_STORE = 5;

    private static final int BITS = 0;
    private static final int BYTES = 1;
    private static final int CHARS = 2;
    private static final int SHORTS = 3;
    private static final int DOUBLES = 7;
    private static final int TEXELS = 8;
    private static final int WORDS = 9;
    private static final int THING = 10;
    private static final int NO_STORE = 11;

    private static final int BOX_NOTHING = 0;
    private static final int BOX_TEXEL = 9;
    private static final int BOX_WORD = 10;
    private static final int LONGEST_WORD = 6;

    private static final int ROWS = 0;
    private static final int TILES = 1;
    private static final int CURVES = 2;
    private static final int REPEAT = 0;
    private static final int CLAMP = 1;

    private static final int TAPE_BYTES = 900;
    private static final int MOST_STORES = 6;
    private static final int MOST_PLACES = 400;
    private static final int MOST_TEXTURES = 4;
    private static final int MOST_LEVELS = 5;
    private static final int MOST_SIDE = 16;
    // The shortest fill line has 12 bytes ("fill p0 0 0;").
    private static final int MOST_FILLS = TAPE_BYTES / 12;
    private static final int MOST_ACTS = 20;
    private static final int BOXES = 2;

    private static final int MOST_VALUE = 1000000;
    private static final int MOST_FACTOR = 9999;
    private static final int MOST_COORDINATE = 9999;
    private static final int MOST_AXIS = 999;
    private static final int MOST_CORNER = 999;
    private static final int MOST_WRAPPED = 99999;
    private static final int MOST_DEPTH = 160;
    private static final int MOST_COLOUR = 65535;
    private static final int IMAGE_MODULUS = 1000003;

    private final byte[] tape;
    private int tapeLength;
    private final Teller teller;
    private Plan plan;
    private Plan draft;
    private final Stores stores;
    private final Acts acts;
    private final Cache cache;
    // Walks go through a cache of their own, so that the one in use stays as it is.
    private final Cache trial;
    private final Tally tally;
    private final Footprint footprint;
    private final Packer packer;

    public TexelBank() {
        tape = new byte[TAPE_BYTES];
        tapeLength = 0;
        teller = new Teller();
        stores = new Stores();
        plan = new Plan(stores.rows[0]);
        draft = new Plan(stores.rows[0]);
        acts = new Acts();
        cache = new Cache();
        trial = new Cache();
        tally = new Tally();
        footprint = new Footprint();
        packer = new Packer();
    }

    public int feed(int a, int b, int c, int d, int e) {
        if (tapeLength > TAPE_BYTES - 20) {
            return NONE;
        }
        append(a);
        append(b);
        append(c);
        append(d);
        append(e);
        return tapeLength;
    }

    private void append(int four) {
        for (int shift = 24; shift >= 0 && tapeLength < TAPE_BYTES; shift -= 8) {
            tape[tapeLength] = (byte) (four >> shift);
            tapeLength++;
        }
    }

    public int end(int n) {
        if (n < 0 || n > tapeLength) {
            return NONE;
        }
        tapeLength = n;
        return n;
    }

    public int bank() {
        boolean good = teller.tells(tape, tapeLength, draft);
        tapeLength = 0;
        if (!good) {
            return NONE;
        }
        Plan told = draft;
        draft = plan;
        plan = told;
        stores.open(plan);
        pourFills();
        acts.clear();
        cache.shape(plan.sets, plan.ways, plan.span);
        trial.shape(plan.sets, plan.ways, plan.span);
        tally.clear();
        return plan.storeCount;
    }

    private void pourFills() {
        for (int k = 0; k < plan.fillCount; k++) {
            int[] fills = plan.fills;
            Texture t = plan.textures[fills[4 * k]];
            t.pour(fills[4 * k + 1], fills[4 * k + 2], fills[4 * k + 3]);
        }
    }

    public int fault(int what) {
        if (what == 0) {
            return teller.fault;
        }
        return what == 1 ? teller.faultPlace : NONE;
    }

    public int kind(int store) {
        return stores.has(store) ? stores.kinds[store] : NONE;
    }

    public int length(int store) {
        if (!stores.has(store)) {
            return NONE;
        }
        if (stores.kinds[store] == THING) {
            return -OTHER;
        }
        return stores.kinds[store] == NO_STORE ? -NOTHING : stores.lengths[store];
    }

    public int peek(int store, int how, int place) {
        if (!stores.has(store) || how < 0 || how > 8) {
            return STRANGE;
        }
        int refused = stores.refusedAsking(store, how, place);
        return refused != 0 ? STRANGE - refused : stores.numberAt(store, place);
    }

    public int poke(int store, int how, int place, int v) {
        if (!stores.has(store) || how < 1 || how > 8 || !within(v, MOST_VALUE)) {
            return NONE;
        }
        int refused = stores.refusedPoking(store, how, place);
        if (refused == 0) {
            setPlace(store, place, how, v);
        }
        return refused;
    }

    public int put(int store, int place, int box, int v) {
        if (!stores.has(store) || !isBoxOf(box, v)) {
            return NONE;
        }
        int refused = stores.refusedPutting(store, place, box);
        if (refused == 0) {
            setPlace(store, place, box, v);
        }
        return refused;
    }

    private void setPlace(int store, int place, int box, int v) {
        acts.begin(store, stores.rows[store]);
        if (stores.set(store, place, box, v)) {
            acts.keep();
        }
    }

    private static boolean isBoxOf(int box, int v) {
        if (box < BOX_NOTHING || box > BOX_WORD) {
            return false;
        }
        if (box == BOX_NOTHING) {
            return true;
        }
        return box == BOX_WORD ? v >= 0 && v <= LONGEST_WORD : within(v, MOST_VALUE);
    }

    private static boolean within(int v, int most) {
        return v >= -most && v <= most;
    }

    public int convert(int from, int to) {
        if (from == to || !stores.isRow(from) || !stores.isRow(to)) {
            return NONE;
        }
        acts.begin(to, stores.rows[to]);
        int shared = Math.min(stores.lengths[from], stores.lengths[to]);
        int refused = 0;
        boolean changed = false;
        for (int place = 0; place < shared; place++) {
            int box = stores.boxAt(from, place);
            if (!takes(stores.kinds[to], box)) {
                refused++;
            } else if (stores.set(to, place, box, stores.rows[from][place])) {
                changed = true;
            }
        }
        if (changed) {
            acts.keep();
        }
        return refused;
    }

    public int unlike(int one, int other) {
        if (!stores.isRow(one) || !stores.isRow(other)) {
            return NONE;
        }
        int shared = Math.min(stores.lengths[one], stores.lengths[other]);
        for (int place = 0; place < shared; place++) {
            if (stores.numberAt(one, place) != stores.numberAt(other, place)) {
                return place;
            }
        }
        return -2;
    }

    public long total(int store) {
        return stores.has(store) ? stores.sumOf(store) : 0;
    }

    public int find(int store, int from, int number) {
        if (!stores.isRow(store) || from < 0) {
            return NONE;
        }
        for (int place = from; place < stores.lengths[store]; place++) {
            if (stores.numberAt(store, place) == number) {
                return place;
            }
        }
        return NONE;
    }

    public int loses(int store, int kind) {
        if (!stores.isRow(store) || kind < BITS || kind > WORDS) {
            return NONE;
        }
        int refused = 0;
        for (int place = 0; place < stores.lengths[store]; place++) {
            if (!takes(kind, stores.boxAt(store, place))) {
                refused++;
            }
        }
        return refused;
    }

    public int undo() {
        if (acts.count == 0) {
            return NONE;
        }
        acts.takeBack(stores);
        return acts.count;
    }

    private boolean hasTexture(int texture) {
        return texture >= 0 && texture < plan.textureCount;
    }

    private boolean hasLevel(int texture, int level) {
        return hasTexture(texture) && plan.textures[texture].hasLevel(level);
    }

    private boolean hasTexel(int texture, int level, int x, int y) {
        return hasLevel(texture, level) && plan.textures[texture].hasTexel(level, x, y);
    }

    public int texture(int texture, int what) {
        if (!hasTexture(texture)) {
            return NONE;
        }
        Texture t = plan.textures[texture];
        switch (what) {
            case 0: return t.store;
            case 1: return t.firsts[0];
            case 2: return t.width;
            case 3: return t.height;
            case 4: return t.levels;
            case 5: return t.order;
            case 6: return t.wrapping;
            case 7: return t.placeCount();
            default: return NONE;
        }
    }

    public int level(int texture, int level, int what) {
        if (!hasLevel(texture, level)) {
            return NONE;
        }
        Texture t = plan.textures[texture];
        switch (what) {
            case 0: return t.wides[level];
            case 1: return t.highs[level];
            case 2: return t.firsts[level];
            default: return NONE;
        }
    }

    public int place(int texture, int level, int x, int y) {
        return hasTexel(texture, level, x, y) ? plan.textures[texture].placeOf(level, x, y) : NONE;
    }

    public int at(int texture, int level, int place) {
        if (!hasLevel(texture, level)) {
            return NONE;
        }
        Texture t = plan.textures[texture];
        return t.hasBehind(level, place) ? t.texelBehind(level, place) : NONE;
    }

    public int texel(int texture, int level, int x, int y) {
        return hasTexel(texture, level, x, y) ? plan.textures[texture].numberOf(level, x, y) : STRANGE;
    }

    public int paint(int texture, int x, int y, int v) {
        if (!hasTexel(texture, 0, x, y) || !within(v, MOST_VALUE)) {
            return NONE;
        }
        Texture t = plan.textures[texture];
        acts.begin(t.store, t.row);
        t.set(0, x, y, v);
        t.remake();
        return settle(t);
    }

    public int fill(int texture, int a, int b, int c) {
        boolean can = within(a, MOST_FACTOR) && within(b, MOST_FACTOR) && within(c, MOST_FACTOR);
        if (!hasTexture(texture) || !can) {
            return NONE;
        }
        Texture t = plan.textures[texture];
        acts.begin(t.store, t.row);
        t.pour(a, b, c);
        return settle(t);
    }

    public int make(int texture) {
        if (!hasTexture(texture)) {
            return NONE;
        }
        Texture t = plan.textures[texture];
        acts.begin(t.store, t.row);
        t.remake();
        return settle(t);
    }

    private int settle(Texture t) {
        int[] before = acts.begun();
        int changed = 0;
        for (int place = t.firsts[0]; place < t.firsts[t.levels]; place++) {
            if (before[place] != t.row[place]) {
                changed++;
            }
        }
        if (changed > 0) {
            acts.keep();
        }
        return changed;
    }

    public int wrap(int texture, int c, int n) {
        if (!hasTexture(texture) || !within(c, MOST_WRAPPED) || n < 1 || n > MOST_SIDE) {
            return NONE;
        }
        return plan.textures[texture].wrapped(c, n);
    }

    private boolean canSample(int texture, int level, int u, int v) {
        return hasLevel(texture, level) && within(u, MOST_COORDINATE) && within(v, MOST_COORDINATE);
    }

    public int nearest(int texture, int level, int u, int v) {
        if (!canSample(texture, level, u, v)) {
            return STRANGE;
        }
        return plan.textures[texture].wrappedNumber(level, u >> level >> 4, v >> level >> 4);
    }

    public int smooth(int texture, int level, int u, int v) {
        if (!canSample(texture, level, u, v)) {
            return STRANGE;
        }
        return Sampler.ofFour(plan.textures[texture], level, u, v);
    }

    public int blend(int texture, int u, int v, int depth) {
        if (!canSample(texture, 0, u, v) || depth < 0 || depth > MOST_DEPTH) {
            return STRANGE;
        }
        return Sampler.ofTwoLevels(plan.textures[texture], u, v, depth);
    }

    private static boolean isFootprint(int u, int v, int otherU, int otherV) {
        return within(u, MOST_AXIS) && within(v, MOST_AXIS)
            && within(otherU, MOST_AXIS) && within(otherV, MOST_AXIS);
    }

    public int axis(int u, int v, int otherU, int otherV, int what) {
        if (!isFootprint(u, v, otherU, otherV)) {
            return NONE;
        }
        footprint.measure(u, v, otherU, otherV);
        switch (what) {
            case 0: return footprint.taps;
            case 1: return footprint.longest;
            case 2: return footprint.which;
            case 3: return footprint.halvings;
            default: return NONE;
        }
    }

    public int filtered(int texture, int u, int v, int axisU, int axisV, int otherU, int otherV) {
        if (!canSample(texture, 0, u, v) || !isFootprint(axisU, axisV, otherU, otherV)) {
            return STRANGE;
        }
        footprint.measure(axisU, axisV, otherU, otherV);
        return Sampler.alongAxis(plan.textures[texture], footprint, u, v);
    }

    private static boolean isInFour(int x, int y) {
        return x >= 0 && x <= 3 && y >= 0 && y <= 3;
    }

    public int unpack(long block, int x, int y) {
        return isInFour(x, y) ? Packer.unpacked(block, y * 4 + x) : NONE;
    }

    public long pack(int texture, int level, int x, int y) {
        if (!hasLevel(texture, level) || !isInFour(x, y)) {
            return 0;
        }
        packer.read(plan.textures[texture], level, x, y);
        return packer.packed();
    }

    public int off(int texture, int level, int x, int y) {
        if (!hasLevel(texture, level) || !isInFour(x, y)) {
            return NONE;
        }
        packer.read(plan.textures[texture], level, x, y);
        return packer.distanceTo(packer.packed());
    }

    public int fetch(int texture, int level, int x, int y) {
        if (!hasTexel(texture, level, x, y)) {
            return NONE;
        }
        Texture t = plan.textures[texture];
        int line = cache.lineOf(t.store, t.placeOf(level, x, y));
        boolean hit = cache.holdAgain(line);
        tally.count(line, hit);
        return hit ? 1 : 0;
    }

    public int flush() {
        int held = cache.held;
        cache.clear();
        tally.clear();
        return held;
    }

    public int walk(int texture, int level, int how) {
        return hasTexture(texture) ? walkAs(texture, level, how, plan.textures[texture].order) : NONE;
    }

    public int bestWalk(int texture, int level) {
        if (!hasLevel(texture, level)) {
            return NONE;
        }
        int best = 0;
        int fewest = walk(texture, level, 0);
        for (int how = 1; how <= 3; how++) {
            int misses = walk(texture, level, how);
            if (misses < fewest) {
                fewest = misses;
                best = how;
            }
        }
        return best;
    }

    public int walkAs(int texture, int level, int how, int order) {
        if (!hasLevel(texture, level) || how < 0 || how > 3 || order < ROWS || order > CURVES) {
            return NONE;
        }
        trial.clear();
        return trial.missesOf(plan.textures[texture], level, how, order);
    }

    public int bestOrder(int texture, int level, int how) {
        if (!hasLevel(texture, level) || how < 0 || how > 3) {
            return NONE;
        }
        int best = ROWS;
        int fewest = walkAs(texture, level, how, ROWS);
        for (int order = TILES; order <= CURVES; order++) {
            int misses = walkAs(texture, level, how, order);
            if (misses < fewest) {
                fewest = misses;
                best = order;
            }
        }
        return best;
    }

    public int moved(int texture, int level, int place, int order) {
        if (!hasLevel(texture, level) || order < ROWS || order > CURVES) {
            return NONE;
        }
        Texture t = plan.textures[texture];
        if (!t.hasBehind(level, place)) {
            return NONE;
        }
        int number = t.texelBehind(level, place);
        int wide = t.wides[level];
        return t.behind(level, number % wide, number / wide, order);
    }

    public int area(int texture, int level, int x, int y, int columns, int rows) {
        boolean can = within(x, MOST_CORNER) && within(y, MOST_CORNER)
            && columns >= 1 && columns <= MOST_SIDE && rows >= 1 && rows <= MOST_SIDE;
        if (!hasLevel(texture, level) || !can) {
            return STRANGE;
        }
        Texture t = plan.textures[texture];
        int sum = 0;
        for (int row = 0; row < rows; row++) {
            for (int column = 0; column < columns; column++) {
                sum += t.wrappedNumber(level, x + column, y + row);
            }
        }
        return sum / (columns * rows);
    }

    public int stale(int texture) {
        return hasTexture(texture) ? plan.textures[texture].countStale() : NONE;
    }

    public int leaves(int set) {
        if (set < 0 || set >= cache.sets) {
            return NONE;
        }
        return cache.lines[cache.slotToGive(set)];
    }

    public int hottest(int k, int what) {
        if (k < 0 || what < 0 || what > 1) {
            return NONE;
        }
        int line = tally.ranked(k);
        return line == NONE || what == 0 ? line : tally.times[line];
    }

    public int image(int box) {
        if (box < 0 || box >= BOXES) {
            return NONE;
        }
        stores.keepImage(box);
        return remainder();
    }

    public int back(int box) {
        if (box < 0 || box >= BOXES || !stores.hasImage[box]) {
            return NONE;
        }
        stores.giveBackImage(box);
        acts.clear();
        return remainder();
    }

    private int remainder() {
        long sum = 0;
        for (int store = 0; store < stores.count; store++) {
            sum += stores.sumOf(store);
        }
        return (int) Math.floorMod(sum, (long) IMAGE_MODULUS);
    }

    public int about(int what) {
        switch (what) {
            case 0: return stores.count;
            case 1: return plan.textureCount;
            case 2: return cache.sets;
            case 3: return cache.ways;
            case 4: return cache.span;
            case 5: return tally.hits;
            case 6: return tally.misses;
            case 7: return cache.held;
            case 8: return acts.count;
            case 9: return tapeLength;
            case 10: return stores.placeCount();
            default: return NONE;
        }
    }

    private static boolean takes(int kind, int box) {
        if (kind == TEXELS) {
            return box == BOX_NOTHING || box == BOX_TEXEL;
        }
        if (kind == WORDS) {
            return box == BOX_NOTHING || box == BOX_WORD;
        }
        return kind <= DOUBLES && box > BOX_NOTHING && box < BOX_TEXEL && Stores.widens(box - 1, kind);
    }

    /** What the text of a BANK tells. Two of them take turns, so that a FAULT leaves the one in force as it is. */
    private static final class Plan {
        final long[] names = new long[MOST_STORES];
        final int[] kinds = new int[MOST_STORES];
        final int[] lengths = new int[MOST_STORES];
        final Texture[] textures = new Texture[MOST_TEXTURES];
        final int[] fills = new int[4 * MOST_FILLS];
        int storeCount;
        int textureCount;
        int fillCount;
        boolean cacheTold;
        int sets;
        int ways;
        int span;

        Plan(int[] anyRow) {
            for (int k = 0; k < MOST_TEXTURES; k++) {
                textures[k] = new Texture(anyRow);
            }
        }

        void clear() {
            storeCount = 0;
            textureCount = 0;
            fillCount = 0;
            cacheTold = false;
            sets = 4;
            ways = 2;
            span = 4;
        }

        void addStore(long name, int kind, int length) {
            if (storeCount < MOST_STORES) {
                names[storeCount] = name;
                kinds[storeCount] = kind;
                lengths[storeCount] = length;
                storeCount++;
            }
        }

        int storeNamed(long name) {
            for (int k = 0; k < storeCount; k++) {
                if (names[k] == name) {
                    return k;
                }
            }
            return NONE;
        }

        int textureNamed(long name) {
            for (int k = 0; k < textureCount; k++) {
                if (textures[k].name == name) {
                    return k;
                }
            }
            return NONE;
        }
    }

    /** Cuts the text into TOKENS; the one that is looked at stands in its fields. */
    private static final class Lexer {
        static final int END = 0;
        static final int SIGN = 1;
        static final int NUMBER = 2;
        static final int WORD = 3;
        static final int BROKEN = 4;
        static final int VOCABULARY_SIZE = 28;
        static final int LONGEST = 8;
        static final int MOST_DIGITS = 4;
        static final String LINE_WORDS = "cache by of store thing none texture on at size levels fill ";
        static final String KIND_WORDS = "bits bytes chars shorts ints longs floats doubles texels words ";
        static final String CHOICE_WORDS = "rows tiles curves repeat clamp mirror ";

        // A word is held as one number, five bits a letter: eight letters need forty.
        final long[] vocabulary = new long[VOCABULARY_SIZE];
        byte[] text;
        int end;
        int next;
        int sort;
        int start;
        int number;
        long word;
        int letters;
        int keyword;

        Lexer() {
            int known = learn(LINE_WORDS, 0);
            known = learn(KIND_WORDS, known);
            learn(CHOICE_WORDS, known);
        }

        private int learn(String words, int known) {
            int count = known;
            long code = 0;
            for (int k = 0; k < words.length() && count < VOCABULARY_SIZE; k++) {
                if (words.charAt(k) == ' ') {
                    vocabulary[count] = code;
                    count++;
                    code = 0;
                } else {
                    code = withLetter(code, words.charAt(k));
                }
            }
            return count;
        }

        private static long withLetter(long code, int letter) {
            return code * 32 + (letter - 'a' + 1);
        }

        void open(byte[] bytes, int length) {
            text = bytes;
            end = Math.min(length, bytes.length);
            next = 0;
            step();
        }

        void step() {
            while (next < end && (text[next] == ' ' || text[next] == '\n')) {
                next++;
            }
            start = next;
            keyword = NONE;
            if (next >= end) {
                sort = END;
            } else if (isLetterNext()) {
                readWord();
            } else if (isDigitNext()) {
                readNumber();
            } else {
                sort = text[next] == ';' ? SIGN : BROKEN;
                next++;
            }
        }

        private boolean isLetterNext() {
            return next < end && text[next] >= 'a' && text[next] <= 'z';
        }

        private boolean isDigitNext() {
            return next < end && text[next] >= '0' && text[next] <= '9';
        }

        private void readWord() {
            word = 0;
            letters = 0;
            while (isLetterNext() && next < end) {
                if (letters < LONGEST) {
                    word = withLetter(word, text[next]);
                }
                letters++;
                next++;
            }
            sort = letters <= LONGEST ? WORD : BROKEN;
            for (int k = 0; k < VOCABULARY_SIZE; k++) {
                if (sort == WORD && vocabulary[k] == word) {
                    keyword = k;
                }
            }
        }

        private void readNumber() {
            number = 0;
            int digits = 0;
            while (isDigitNext() && next < end) {
                if (digits < MOST_DIGITS) {
                    number = number * 10 + (text[next] - '0');
                }
                digits++;
                next++;
            }
            sort = digits <= MOST_DIGITS && !isLetterNext() ? NUMBER : BROKEN;
        }
    }

    /** Reads the text of a BANK into a Plan, up to its first FAULT. */
    private static final class Teller {
        static final int CACHE = 0;
        static final int BY = 1;
        static final int OF = 2;
        static final int STORE = 3;
        static final int THING_WORD = 4;
        static final int NONE_WORD = 5;
        static final int TEXTURE = 6;
        static final int ON = 7;
        static final int AT = 8;
        static final int SIZE = 9;
        static final int LEVELS = 10;
        static final int FILL = 11;
        static final int FIRST_KIND = 12;
        static final int KIND_WORDS = 10;
        static final int FIRST_ORDER = 22;
        static final int FIRST_WRAP = 25;
        static final int CHOICES = 3;
        static final int LONGEST_NAME = 7;
        static final int MOST_SETS = 8;
        static final int MOST_WAYS = 4;
        static final int MOST_SPAN = 16;

        final Lexer lexer = new Lexer();
        Plan plan;
        int fault;
        int faultPlace = NONE;
        // What the latest token that was passed told.
        int value;
        long name;

        boolean tells(byte[] text, int length, Plan empty) {
            plan = empty;
            plan.clear();
            fault = 0;
            faultPlace = NONE;
            lexer.open(text, length);
            boolean good = true;
            for (int lines = 0; lines < TAPE_BYTES && good && lexer.sort != Lexer.END; lines++) {
                switch (lexer.keyword) {
                    case CACHE: good = tellsCache(); break;
                    case STORE: good = tellsStore(); break;
                    case THING_WORD: good = tellsNoRow(THING); break;
                    case NONE_WORD: good = tellsNoRow(NO_STORE); break;
                    case TEXTURE: good = tellsTexture(); break;
                    case FILL: good = tellsFill(); break;
                    default: good = refuse(MISPLACED);
                }
            }
            return good;
        }

        private boolean refuse(int why) {
            fault = lexer.sort == Lexer.BROKEN ? NO_TOKEN : why;
            faultPlace = lexer.start;
            return false;
        }

        private boolean passOneOf(int first, int count) {
            if (lexer.keyword < first || lexer.keyword >= first + count) {
                return refuse(MISPLACED);
            }
            value = lexer.keyword - first;
            lexer.step();
            return true;
        }

        private boolean passSign() {
            if (lexer.sort != Lexer.SIGN) {
                return refuse(MISPLACED);
            }
            lexer.step();
            return true;
        }

        private boolean passNumber(int least, int most) {
            if (!isNumber(least, most)) {
                return false;
            }
            value = lexer.number;
            lexer.step();
            return true;
        }

        private boolean isNumber(int least, int most) {
            if (lexer.sort != Lexer.NUMBER) {
                return refuse(MISPLACED);
            }
            if (lexer.number < least || lexer.number > most) {
                return refuse(WRONG_NUMBER);
            }
            return true;
        }

        private boolean passPower(int most) {
            if (!isNumber(1, most)) {
                return false;
            }
            if (Integer.bitCount(lexer.number) != 1) {
                return refuse(WRONG_NUMBER);
            }
            value = lexer.number;
            lexer.step();
            return true;
        }

        private boolean isName() {
            boolean can = lexer.sort == Lexer.WORD && lexer.keyword == NONE && lexer.letters <= LONGEST_NAME;
            return can || refuse(MISPLACED);
        }

        private boolean takeName() {
            name = lexer.word;
            lexer.step();
            return true;
        }

        private boolean passNewName() {
            if (!isName()) {
                return false;
            }
            boolean told = plan.storeNamed(lexer.word) != NONE || plan.textureNamed(lexer.word) != NONE;
            return told ? refuse(WRONG_NAME) : takeName();
        }

        private boolean tellsCache() {
            if (plan.cacheTold) {
                return refuse(MISPLACED);
            }
            plan.cacheTold = true;
            if (!passOneOf(CACHE, 1) || !passPower(MOST_SETS)) {
                return false;
            }
            plan.sets = value;
            if (!passOneOf(BY, 1) || !passNumber(1, MOST_WAYS)) {
                return false;
            }
            plan.ways = value;
            if (!passOneOf(OF, 1) || !passPower(MOST_SPAN)) {
                return false;
            }
            plan.span = value;
            return passSign();
        }

        private boolean tellsStore() {
            if (plan.storeCount >= MOST_STORES) {
                return refuse(MISPLACED);
            }
            if (!passOneOf(STORE, 1) || !passNewName() || !passOneOf(FIRST_KIND, KIND_WORDS)) {
                return false;
            }
            int kind = value;
            if (!passNumber(1, MOST_PLACES)) {
                return false;
            }
            plan.addStore(name, kind, value);
            return passSign();
        }

        private boolean tellsNoRow(int kind) {
            if (plan.storeCount >= MOST_STORES) {
                return refuse(MISPLACED);
            }
            lexer.step();
            if (!passNewName()) {
                return false;
            }
            plan.addStore(name, kind, 0);
            return passSign();
        }

        private boolean tellsTexture() {
            if (plan.textureCount >= MOST_TEXTURES) {
                return refuse(MISPLACED);
            }
            Texture t = plan.textures[plan.textureCount];
            if (!passOneOf(TEXTURE, 1) || !passNewName()) {
                return false;
            }
            t.name = name;
            if (!passOneOf(ON, 1) || !passStoreOf(t) || !passExtent(t) || !passOneOf(FIRST_ORDER, CHOICES)) {
                return false;
            }
            t.order = value;
            if (!passOneOf(FIRST_WRAP, CHOICES)) {
                return false;
            }
            t.wrapping = value;
            plan.textureCount++;
            return passSign();
        }

        private boolean passStoreOf(Texture t) {
            if (!isName()) {
                return false;
            }
            int store = plan.storeNamed(lexer.word);
            if (store == NONE || plan.kinds[store] < BYTES || plan.kinds[store] > DOUBLES) {
                return refuse(WRONG_NAME);
            }
            t.store = store;
            t.kind = plan.kinds[store];
            return takeName();
        }

        private boolean passExtent(Texture t) {
            if (!passOneOf(AT, 1) || !passNumber(0, MOST_PLACES - 1)) {
                return false;
            }
            int first = value;
            if (!passOneOf(SIZE, 1) || !passPower(MOST_SIDE)) {
                return false;
            }
            t.width = value;
            if (!passOneOf(BY, 1) || !passPower(MOST_SIDE)) {
                return false;
            }
            t.height = value;
            // A power of two less one has as many bits as the power can be halved.
            int most = 1 + Integer.bitCount(Math.max(t.width, t.height) - 1);
            if (!passOneOf(LEVELS, 1) || !isNumber(1, most)) {
                return false;
            }
            t.layLevels(first, lexer.number);
            return t.firsts[t.levels] > plan.lengths[t.store] ? refuse(BEYOND_STORE) : passNumber(1, most);
        }

        private boolean tellsFill() {
            lexer.step();
            if (!isName()) {
                return false;
            }
            int texture = plan.textureNamed(lexer.word);
            if (texture == NONE) {
                return refuse(WRONG_NAME);
            }
            takeName();
            int slot = 4 * Math.min(plan.fillCount, MOST_FILLS - 1);
            plan.fills[slot] = texture;
            for (int k = 1; k <= 3; k++) {
                if (!passNumber(0, MOST_FACTOR)) {
                    return false;
                }
                plan.fills[slot + k] = value;
            }
            plan.fillCount = Math.min(plan.fillCount + 1, MOST_FILLS);
            return passSign();
        }
    }

    /**
     * The rows of PLACES. All numbers that can be set are whole and at most a million, which ints, floats and
     * doubles hold exactly: so each PLACE is one int, whatever its KIND.
     */
    private static final class Stores {
        static final int ABSENT = Integer.MIN_VALUE;
        // For each KIND the KINDS that it widens to, a bit for each.
        static final int[] WIDER = {0x01, 0xFA, 0xF4, 0xF8, 0xF0, 0xE0, 0xC0, 0x80};

        final int[][] rows = new int[MOST_STORES][MOST_PLACES];
        final int[] kinds = new int[MOST_STORES];
        final int[] lengths = new int[MOST_STORES];
        final int[][] images = new int[BOXES * MOST_STORES][MOST_PLACES];
        final boolean[] hasImage = new boolean[BOXES];
        int count;

        void open(Plan plan) {
            count = plan.storeCount;
            for (int box = 0; box < BOXES; box++) {
                hasImage[box] = false;
            }
            for (int store = 0; store < count; store++) {
                kinds[store] = plan.kinds[store];
                lengths[store] = plan.lengths[store];
                Arrays.fill(rows[store], kinds[store] >= TEXELS ? ABSENT : 0);
            }
            for (int k = 0; k < plan.textureCount; k++) {
                plan.textures[k].row = rows[plan.textures[k].store];
            }
        }

        static boolean widens(int from, int to) {
            return from >= BITS && from <= DOUBLES && (WIDER[from] >> to & 1) != 0;
        }

        static int cut(int kind, int v) {
            switch (kind) {
                case BITS: return v != 0 ? 1 : 0;
                case BYTES: return (byte) v;
                case CHARS: return (char) v;
                case SHORTS: return (short) v;
                default: return v;
            }
        }

        boolean has(int store) {
            return store >= 0 && store < count;
        }

        boolean isRow(int store) {
            return has(store) && kinds[store] <= WORDS;
        }

        int numberAt(int store, int place) {
            int held = rows[store][place];
            return held == ABSENT ? NONE : held;
        }

        int boxAt(int store, int place) {
            int kind = kinds[store];
            return kind >= TEXELS && rows[store][place] == ABSENT ? BOX_NOTHING : kind + 1;
        }

        long sumOf(int store) {
            long sum = 0;
            for (int place = 0; place < lengths[store]; place++) {
                sum += numberAt(store, place);
            }
            return sum;
        }

        int placeCount() {
            int places = 0;
            for (int store = 0; store < count; store++) {
                places += lengths[store];
            }
            return places;
        }

        private int refusedRow(int store, boolean asNumber) {
            if (kinds[store] == NO_STORE) {
                return NOTHING;
            }
            return kinds[store] == THING || asNumber && kinds[store] >= TEXELS ? OTHER : 0;
        }

        private int refusedPlace(int store, int place, boolean fits) {
            if (place < 0 || place >= lengths[store]) {
                return OUT;
            }
            return fits ? 0 : OTHER;
        }

        int refusedAsking(int store, int how, int place) {
            int refused = refusedRow(store, how > 0);
            boolean fits = how == 0 || widens(kinds[store], how - 1);
            return refused != 0 ? refused : refusedPlace(store, place, fits);
        }

        int refusedPoking(int store, int how, int place) {
            int refused = refusedRow(store, true);
            return refused != 0 ? refused : refusedPlace(store, place, takes(kinds[store], how));
        }

        int refusedPutting(int store, int place, int box) {
            int refused = refusedRow(store, false);
            if (refused == 0 && box == BOX_NOTHING && kinds[store] < TEXELS) {
                refused = OTHER;
            }
            return refused != 0 ? refused : refusedPlace(store, place, takes(kinds[store], box));
        }

        /** Whether the PLACE has another thing by it then: a texel, a word is always another one. */
        boolean set(int store, int place, int box, int v) {
            int before = rows[store][place];
            int after = box == BOX_NOTHING ? ABSENT : box >= BOX_TEXEL ? v : cut(box - 1, v);
            rows[store][place] = after;
            return box >= BOX_TEXEL || before != after;
        }

        void keepImage(int box) {
            hasImage[box] = true;
            for (int store = 0; store < count; store++) {
                System.arraycopy(rows[store], 0, images[box * MOST_STORES + store], 0, MOST_PLACES);
            }
        }

        void giveBackImage(int box) {
            for (int store = 0; store < count; store++) {
                System.arraycopy(images[box * MOST_STORES + store], 0, rows[store], 0, MOST_PLACES);
            }
        }
    }

    /** The latest ACTS: of each the row as it was. The one that is begun has a place of its own until it is kept. */
    private static final class Acts {
        static final int SLOTS = MOST_ACTS + 1;

        // Made when first needed: few objects ever fill all slots, and all objects of a run share one room.
        final int[][] rows = new int[SLOTS][];
        final int[] ofStore = new int[SLOTS];
        int oldest;
        int count;

        void clear() {
            oldest = 0;
            count = 0;
        }

        private int slot(int k) {
            return (oldest + k) % SLOTS;
        }

        int[] begun() {
            int slot = slot(count);
            if (rows[slot] == null) {
                rows[slot] = new int[MOST_PLACES];
            }
            return rows[slot];
        }

        void begin(int store, int[] row) {
            ofStore[slot(count)] = store;
            System.arraycopy(row, 0, begun(), 0, MOST_PLACES);
        }

        void keep() {
            if (count < MOST_ACTS) {
                count++;
            } else {
                oldest = slot(1);
            }
        }

        void takeBack(Stores stores) {
            if (count > 0) {
                count--;
                System.arraycopy(begun(), 0, stores.rows[ofStore[slot(count)]], 0, MOST_PLACES);
            }
        }
    }

    private static final class Texture {
        // The first PLACE of each LEVEL, and behind the last one where the TEXTURE ends.
        final int[] firsts = new int[MOST_LEVELS + 1];
        final int[] wides = new int[MOST_LEVELS];
        final int[] highs = new int[MOST_LEVELS];
        long name;
        int store;
        int kind;
        int[] row;
        int width;
        int height;
        int levels;
        int order;
        int wrapping;

        Texture(int[] anyRow) {
            row = anyRow;
        }

        void layLevels(int first, int count) {
            levels = Math.min(count, MOST_LEVELS);
            firsts[0] = first;
            for (int level = 0; level < levels; level++) {
                wides[level] = Math.max(1, width >> level);
                highs[level] = Math.max(1, height >> level);
                firsts[level + 1] = firsts[level] + texelCount(level);
            }
        }

        int texelCount(int level) {
            return wides[level] * highs[level];
        }

        int placeCount() {
            return firsts[levels] - firsts[0];
        }

        boolean hasLevel(int level) {
            return level >= 0 && level < levels;
        }

        boolean hasTexel(int level, int x, int y) {
            return x >= 0 && x < wides[level] && y >= 0 && y < highs[level];
        }

        boolean hasBehind(int level, int places) {
            return places >= 0 && places < texelCount(level);
        }

        /** How many PLACES behind the first of its LEVEL a TEXEL lies by an order. */
        int behind(int level, int x, int y, int byOrder) {
            int wide = wides[level];
            if (byOrder == TILES && wide >= 4 && highs[level] >= 4) {
                int tile = y / 4 * (wide / 4) + x / 4;
                return tile * 16 + y % 4 * 4 + x % 4;
            }
            return byOrder == CURVES ? alongCurve(x, y, wide, highs[level]) : y * wide + x;
        }

        private static int alongCurve(int x, int y, int wide, int high) {
            int places = 0;
            int next = 1;
            for (int bit = 1; bit < MOST_SIDE; bit *= 2) {
                if (bit < wide) {
                    places += (x & bit) != 0 ? next : 0;
                    next *= 2;
                }
                if (bit < high) {
                    places += (y & bit) != 0 ? next : 0;
                    next *= 2;
                }
            }
            return places;
        }

        /** How many PLACES behind the first of its LEVEL the k-th TEXEL of a WALK lies. */
        int behindOnWalk(int level, int k, int how, int byOrder) {
            int wide = wides[level];
            int high = highs[level];
            if (how == 0) {
                return behind(level, k % wide, k / wide, byOrder);
            }
            if (how == 1) {
                return behind(level, k / high, k % high, byOrder);
            }
            if (how == 2) {
                return k;
            }
            int tileWide = Math.min(4, wide);
            int tileHigh = Math.min(4, high);
            int tile = k / (tileWide * tileHigh);
            int rest = k % (tileWide * tileHigh);
            int across = wide / tileWide;
            int x = tile % across * tileWide + rest % tileWide;
            int y = tile / across * tileHigh + rest / tileWide;
            return behind(level, x, y, byOrder);
        }

        /** The TEXEL, y times how wide its LEVEL is and x, that lies so many PLACES behind the first. */
        int texelBehind(int level, int places) {
            int wide = wides[level];
            if (order == TILES && wide >= 4 && highs[level] >= 4) {
                int tile = places / 16;
                int x = tile % (wide / 4) * 4 + places % 4;
                int y = tile / (wide / 4) * 4 + places % 16 / 4;
                return y * wide + x;
            }
            return order == CURVES ? texelOnCurve(places, wide, highs[level]) : places;
        }

        private static int texelOnCurve(int places, int wide, int high) {
            int x = 0;
            int y = 0;
            int next = 1;
            for (int bit = 1; bit < MOST_SIDE; bit *= 2) {
                if (bit < wide) {
                    x += (places & next) != 0 ? bit : 0;
                    next *= 2;
                }
                if (bit < high) {
                    y += (places & next) != 0 ? bit : 0;
                    next *= 2;
                }
            }
            return y * wide + x;
        }

        int placeOf(int level, int x, int y) {
            return firsts[level] + behind(level, x, y, order);
        }

        int numberOf(int level, int x, int y) {
            return row[firsts[level] + behind(level, x, y, order)];
        }

        int wrappedNumber(int level, int x, int y) {
            return numberOf(level, wrapped(x, wides[level]), wrapped(y, highs[level]));
        }

        int wrapped(int c, int n) {
            if (wrapping == CLAMP) {
                return Math.max(0, Math.min(c, n - 1));
            }
            if (wrapping == REPEAT) {
                return Math.floorMod(c, n);
            }
            int turn = Math.floorMod(c, 2 * n);
            return turn < n ? turn : 2 * n - 1 - turn;
        }

        void set(int level, int x, int y, int v) {
            row[firsts[level] + behind(level, x, y, order)] = Stores.cut(kind, v);
        }

        void pour(int a, int b, int c) {
            for (int y = 0; y < height; y++) {
                for (int x = 0; x < width; x++) {
                    set(0, x, y, a * x + b * y + c);
                }
            }
            remake();
        }

        void remake() {
            for (int level = 1; level < levels; level++) {
                for (int y = 0; y < highs[level]; y++) {
                    for (int x = 0; x < wides[level]; x++) {
                        set(level, x, y, made(level, x, y));
                    }
                }
            }
        }

        private int made(int level, int x, int y) {
            int below = level - 1;
            int sum = 0;
            int count = 0;
            for (int k = 0; k < 4; k++) {
                int underX = 2 * x + k % 2;
                int underY = 2 * y + k / 2;
                if (hasTexel(below, underX, underY)) {
                    sum += numberOf(below, underX, underY);
                    count++;
                }
            }
            return count == 0 ? 0 : sum / count;
        }

        int countStale() {
            int others = 0;
            for (int level = 1; level < levels; level++) {
                for (int y = 0; y < highs[level]; y++) {
                    for (int x = 0; x < wides[level]; x++) {
                        if (numberOf(level, x, y) != Stores.cut(kind, made(level, x, y))) {
                            others++;
                        }
                    }
                }
            }
            return others;
        }
    }

    private static final class Sampler {
        static int ofFour(Texture t, int level, int u, int v) {
            int left = (u >> level) - 8;
            int top = (v >> level) - 8;
            int x = left >> 4;
            int y = top >> 4;
            int f = left & 15;
            int g = top & 15;
            int sum = t.wrappedNumber(level, x, y) * (16 - f) * (16 - g)
                + t.wrappedNumber(level, x + 1, y) * f * (16 - g)
                + t.wrappedNumber(level, x, y + 1) * (16 - f) * g
                + t.wrappedNumber(level, x + 1, y + 1) * f * g;
            return sum / 256;
        }

        static int ofTwoLevels(Texture t, int u, int v, int depth) {
            int level = depth / 16;
            int rest = depth % 16;
            int last = t.levels - 1;
            if (level >= last) {
                return ofFour(t, last, u, v);
            }
            return (ofFour(t, level, u, v) * (16 - rest) + ofFour(t, level + 1, u, v) * rest) / 16;
        }

        static int alongAxis(Texture t, Footprint footprint, int u, int v) {
            int taps = footprint.taps;
            int level = Math.min(footprint.halvings, t.levels - 1);
            int sum = 0;
            for (int k = 0; k < taps; k++) {
                int part = 2 * k + 1 - taps;
                int tapU = u + footprint.longU * part / (2 * taps);
                int tapV = v + footprint.longV * part / (2 * taps);
                sum += ofFour(t, level, tapU, tapV);
            }
            return sum / taps;
        }
    }

    private static final class Footprint {
        static final int MOST_TAPS = 8;
        // Axes are at most 1,998 long; thirty halvings bring any int below 16.
        static final int MOST_HALVINGS = 30;

        int taps = 1;
        int longest;
        int which;
        int longU;
        int longV;
        int halvings;

        void measure(int u, int v, int otherU, int otherV) {
            int one = Math.abs(u) + Math.abs(v);
            int other = Math.abs(otherU) + Math.abs(otherV);
            which = other > one ? 1 : 0;
            longest = Math.max(one, other);
            longU = which == 0 ? u : otherU;
            longV = which == 0 ? v : otherV;
            taps = tapsOf(longest, Math.min(one, other));
            halvings = 0;
            int step = (longest + taps - 1) / taps;
            for (int turn = 0; turn < MOST_HALVINGS && step > 16; turn++) {
                step = (step + 1) / 2;
                halvings++;
            }
        }

        private static int tapsOf(int longer, int shorter) {
            if (longer == 0) {
                return 1;
            }
            return shorter == 0 ? MOST_TAPS : Math.min(MOST_TAPS, (longer + shorter - 1) / shorter);
        }
    }

    /** Packs the sixteen TEXELS that it has read. */
    private static final class Packer {
        final int[] numbers = new int[16];

        void read(Texture t, int level, int x, int y) {
            for (int k = 0; k < 16; k++) {
                int number = t.wrappedNumber(level, 4 * x + k % 4, 4 * y + k / 4);
                numbers[k] = Math.max(0, Math.min(number, MOST_COLOUR));
            }
        }

        long packed() {
            int greatest = numbers[0];
            int least = numbers[0];
            for (int number : numbers) {
                greatest = Math.max(greatest, number);
                least = Math.min(least, number);
            }
            long block = (long) least << 16 | greatest;
            for (int k = 0; k < 16; k++) {
                block |= (long) nearestChoice(numbers[k], greatest, least) << (32 + 2 * k);
            }
            return block;
        }

        private static int nearestChoice(int number, int a, int b) {
            int best = 0;
            for (int choice = 1; choice < 4; choice++) {
                if (Math.abs(chosen(a, b, choice) - number) < Math.abs(chosen(a, b, best) - number)) {
                    best = choice;
                }
            }
            return best;
        }

        private static int chosen(int a, int b, int choice) {
            switch (choice) {
                case 0: return a;
                case 1: return b;
                case 2: return a > b ? (2 * a + b) / 3 : (a + b) / 2;
                default: return a > b ? (a + 2 * b) / 3 : 0;
            }
        }

        static int unpacked(long block, int k) {
            int a = (int) (block & MOST_COLOUR);
            int b = (int) (block >> 16 & MOST_COLOUR);
            return chosen(a, b, (int) (block >> (32 + 2 * k) & 3));
        }

        int distanceTo(long block) {
            int distance = 0;
            for (int k = 0; k < 16; k++) {
                distance += Math.abs(numbers[k] - unpacked(block, k));
            }
            return distance;
        }
    }

    private static final class Cache {
        static final int SLOTS = 32;

        // A SET's slots lie side by side; a slot without a LINE has NONE.
        final int[] lines = new int[SLOTS];
        final int[] fetched = new int[SLOTS];
        int sets;
        int ways;
        int span;
        int clock;
        int held;

        Cache() {
            sets = 4;
            ways = 2;
            span = 4;
            Arrays.fill(lines, NONE);
        }

        void shape(int newSets, int newWays, int newSpan) {
            sets = newSets;
            ways = newWays;
            span = newSpan;
            clear();
        }

        void clear() {
            Arrays.fill(lines, NONE);
            clock = 0;
            held = 0;
        }

        int lineOf(int store, int place) {
            return (MOST_PLACES * store + place) / span;
        }

        /** The slot of a SET that takes the next LINE: one without any, else the one fetched least lately. */
        int slotToGive(int set) {
            int first = set * ways;
            int least = first;
            for (int slot = first; slot < first + ways; slot++) {
                if (lines[slot] == NONE) {
                    return slot;
                }
                if (fetched[slot] < fetched[least]) {
                    least = slot;
                }
            }
            return least;
        }

        /** Fetches a LINE: whether it was held already. */
        boolean holdAgain(int line) {
            clock++;
            int first = line % sets * ways;
            for (int slot = first; slot < first + ways; slot++) {
                if (lines[slot] == line) {
                    fetched[slot] = clock;
                    return true;
                }
            }
            int slot = slotToGive(line % sets);
            held += lines[slot] == NONE ? 1 : 0;
            lines[slot] = line;
            fetched[slot] = clock;
            return false;
        }

        int missesOf(Texture t, int level, int how, int order) {
            int missed = 0;
            for (int k = 0; k < t.texelCount(level); k++) {
                int place = t.firsts[level] + t.behindOnWalk(level, k, how, order);
                if (!holdAgain(lineOf(t.store, place))) {
                    missed++;
                }
            }
            return missed;
        }
    }

    private static final class Tally {
        final int[] times = new int[MOST_STORES * MOST_PLACES];
        int hits;
        int misses;

        void clear() {
            Arrays.fill(times, 0);
            hits = 0;
            misses = 0;
        }

        void count(int line, boolean hit) {
            times[line]++;
            hits += hit ? 1 : 0;
            misses += hit ? 0 : 1;
        }

        /** The k-th LINE: passes over all LINES of one count at a time, from the greatest count down. */
        int ranked(int k) {
            int left = k;
            int count = greatestBelow(Integer.MAX_VALUE);
            for (int turn = 0; turn < times.length && count > 0; turn++) {
                for (int line = 0; line < times.length; line++) {
                    if (times[line] == count) {
                        if (left == 0) {
                            return line;
                        }
                        left--;
                    }
                }
                count = greatestBelow(count);
            }
            return NONE;
        }

        private int greatestBelow(int bound) {
            int greatest = 0;
            for (int count : times) {
                if (count < bound) {
                    greatest = Math.max(greatest, count);
                }
            }
            return greatest;
        }
    }
}
