import java.lang.reflect.Array;
import java.util.ArrayDeque;
import java.util.ArrayList;
import java.util.Comparator;
import java.util.Deque;
import java.util.HashMap;
import java.util.List;
import java.util.Map;
import java.util.Set;
import java.util.TreeMap;
import java.util.function.IntPredicate;

/**
 * A second, plain reading of the document, which TexelBank is held against call by call. It shares no code and no
 * idea with it: STORES are arrays of Java's own, asked and set through java.lang.reflect.Array, whose exceptions
 * tell what is REFUSED; a text is cut whole, and held against patterns.
 */
final class PlainBank {
    static final int NONE = -1;
    static final int STRANGE = -1000000001;
    private static final List<String> KINDS =
        List.of("bits", "bytes", "chars", "shorts", "ints", "longs", "floats", "doubles", "texels", "words");
    private static final List<String> ORDERS = List.of("rows", "tiles", "curves");
    private static final List<String> WRAPS = List.of("repeat", "clamp", "mirror");
    private static final Set<String> OWN_WORDS = Set.of("cache", "by", "of", "store", "thing", "none", "texture", "on", "at", "size",
        "levels", "fill", "bits", "bytes", "chars", "shorts", "ints", "longs", "floats", "doubles", "texels", "words", "rows", "tiles",
        "curves", "repeat", "clamp", "mirror");

    private static final Map<List<Integer>, List<Integer>> LYING = new HashMap<>();

    private record Texel(int number) {
    }

    private record Token(String text, int place, boolean good) {
    }

    private record Act(int store, Object before) {
    }

    private static final class Fault extends RuntimeException {
        private static final long serialVersionUID = 1;
        final int number;
        final int place;

        Fault(int number, int place) {
            this.number = number;
            this.place = place;
        }
    }

    private static final class Texture {
        int store;
        int first;
        int width;
        int height;
        int levels;
        int order;
        int wrap;

        int wide(int level) {
            return Math.max(1, width / (1 << level));
        }

        int high(int level) {
            return Math.max(1, height / (1 << level));
        }

        int firstOf(int level) {
            int place = first;
            for (int below = 0; below < level; below++) {
                place += wide(below) * high(below);
            }
            return place;
        }

        int places() {
            return firstOf(levels) - first;
        }

        int behind(int level, int x, int y, int by) {
            return lying(level, by).indexOf(y * wide(level) + x);
        }

        /** The TEXELS of a LEVEL, y times how wide it is and x, in the order of their PLACES. */
        List<Integer> lying(int level, int by) {
            return LYING.computeIfAbsent(List.of(wide(level), high(level), by), key -> laid(key.get(0), key.get(1), by));
        }

        private static List<Integer> laid(int wide, int high, int by) {
            List<Integer> texels = new ArrayList<>();
            for (int texel = 0; texel < wide * high; texel++) {
                texels.add(texel);
            }
            if (by == 1 && wide >= 4 && high >= 4) {
                texels.sort(inTiles(wide));
            } else if (by == 2) {
                texels.sort(Comparator.comparing(t -> interleaved(t % wide, t / wide, wide, high)));
            }
            return List.copyOf(texels);
        }

        static Comparator<Integer> inTiles(int wide) {
            return Comparator.<Integer>comparingInt(t -> t / wide / 4).thenComparingInt(t -> t % wide / 4)
                .thenComparingInt(t -> t / wide).thenComparingInt(t -> t % wide);
        }

        private static String interleaved(int x, int y, int wide, int high) {
            String bits = "";
            int xs = Integer.numberOfTrailingZeros(wide);
            int ys = Integer.numberOfTrailingZeros(high);
            for (int bit = 0; bit < Math.max(xs, ys); bit++) {
                bits = (bit < xs ? (x >> bit) % 2 + "" : "") + bits;
                bits = (bit < ys ? (y >> bit) % 2 + "" : "") + bits;
            }
            return bits;
        }

        int wrapped(long c, int n) {
            if (wrap == 0) {
                return (int) Math.floorMod(c, (long) n);
            }
            if (wrap == 1) {
                return (int) Math.min(n - 1, Math.max(0, c));
            }
            long turn = Math.floorMod(c, 2L * n);
            return (int) (turn >= n ? 2 * n - 1 - turn : turn);
        }
    }

    private StringBuilder tape = new StringBuilder();
    private int fault = 0;
    private int faultPlace = NONE;
    private int sets = 4;
    private int ways = 2;
    private int span = 4;
    private List<Object> rows = new ArrayList<>();
    private List<Integer> kinds = new ArrayList<>();
    private List<Texture> textures = new ArrayList<>();
    private final Deque<Act> acts = new ArrayDeque<>();
    private final Object[][] boxes = new Object[2][];
    private List<List<Integer>> held = emptySets(4);
    private Map<Integer, Integer> fetched = new TreeMap<>();
    private int hits = 0;
    private int misses = 0;

    int feed(int a, int b, int c, int d, int e) {
        if (tape.length() + 20 > 900) {
            return NONE;
        }
        for (int number : new int[] {a, b, c, d, e}) {
            tape.append((char) (number >>> 24)).append((char) (number >>> 16 & 255));
            tape.append((char) (number >>> 8 & 255)).append((char) (number & 255));
        }
        return tape.length();
    }

    int end(int n) {
        if (n < 0 || n > tape.length()) {
            return NONE;
        }
        tape.setLength(n);
        return n;
    }

    int bank() {
        String text = tape.toString();
        tape = new StringBuilder();
        fault = 0;
        faultPlace = NONE;
        PlainBank told = new PlainBank();
        try {
            told.tell(text);
        } catch (Fault found) {
            fault = found.number;
            faultPlace = found.place;
            return NONE;
        }
        sets = told.sets;
        ways = told.ways;
        span = told.span;
        rows = told.rows;
        kinds = told.kinds;
        textures = told.textures;
        acts.clear();
        boxes[0] = null;
        boxes[1] = null;
        flush();
        return rows.size();
    }

    private static List<Token> cut(String text) {
        List<Token> tokens = new ArrayList<>();
        int at = 0;
        while (at < text.length()) {
            char c = text.charAt(at);
            int to = at + 1;
            if (c == 32 || c == 10) {
                at++;
                continue;
            }
            IntPredicate same = letter(c) ? PlainBank::letter : digit(c) ? PlainBank::digit : other -> false;
            while (to < text.length() && same.test(text.charAt(to))) {
                to++;
            }
            boolean letterBehind = digit(c) && to < text.length() && letter(text.charAt(to));
            boolean good = letter(c) && to - at <= 8 || digit(c) && to - at <= 4 && !letterBehind || c == ';';
            tokens.add(new Token(text.substring(at, to), at, good));
            at = to;
        }
        tokens.add(new Token("", text.length(), true));
        return tokens;
    }

    private static boolean letter(int c) {
        return c >= 97 && c <= 122;
    }

    private static boolean digit(int c) {
        return c >= 48 && c <= 57;
    }

    private static boolean isPower(int n, int most) {
        return List.of(1, 2, 4, 8, 16).contains(n) && n <= most;
    }

    private List<Token> tokens;
    private int next;
    private final List<String> storeNames = new ArrayList<>();
    private final List<String> textureNames = new ArrayList<>();

    private void tell(String text) {
        tokens = cut(text);
        boolean cacheTold = false;
        while (!tokens.get(next).text.isEmpty()) {
            Token word = tokens.get(next);
            boolean fits = switch (word.text) {
                case "cache" -> !cacheTold;
                case "store", "thing", "none" -> rows.size() < 6;
                case "texture" -> textures.size() < 4;
                default -> word.text.equals("fill");
            };
            if (!fits) {
                throw new Fault(word.good ? 2 : 1, word.place);
            }
            next++;
            switch (word.text) {
                case "cache" -> tellCache();
                case "store" -> tellStore();
                case "thing" -> tellOther(new Object(), 10);
                case "none" -> tellOther(null, 11);
                case "texture" -> tellTexture();
                default -> tellFill();
            }
            cacheTold |= word.text.equals("cache");
            literal(";");
        }
    }

    private Token good() {
        Token token = tokens.get(next);
        if (!token.good) {
            throw new Fault(1, token.place);
        }
        return token;
    }

    private void literal(String word) {
        choice(List.of(word));
    }

    private int choice(List<String> words) {
        Token token = good();
        if (!words.contains(token.text)) {
            throw new Fault(2, token.place);
        }
        next++;
        return words.indexOf(token.text);
    }

    private int number(IntPredicate can) {
        Token token = good();
        if (token.text.isEmpty() || !digit(token.text.charAt(0))) {
            throw new Fault(2, token.place);
        }
        int value = Integer.parseInt(token.text);
        if (!can.test(value)) {
            throw new Fault(4, token.place);
        }
        next++;
        return value;
    }

    private Token name() {
        Token token = good();
        if (!token.text.matches("[a-z]{1,7}") || OWN_WORDS.contains(token.text)) {
            throw new Fault(2, token.place);
        }
        next++;
        return token;
    }

    private String newName() {
        Token token = name();
        if (storeNames.contains(token.text) || textureNames.contains(token.text)) {
            throw new Fault(3, token.place);
        }
        return token.text;
    }

    private void tellCache() {
        sets = number(n -> isPower(n, 8));
        literal("by");
        ways = number(n -> n >= 1 && n <= 4);
        literal("of");
        span = number(n -> isPower(n, 16));
    }

    private void tellStore() {
        storeNames.add(newName());
        int kind = choice(KINDS);
        int length = number(n -> n >= 1 && n <= 400);
        Class<?>[] types = {boolean.class, byte.class, char.class, short.class, int.class, long.class, float.class, double.class,
            Texel.class, String.class};
        rows.add(Array.newInstance(types[kind], length));
        kinds.add(kind);
    }

    private void tellOther(Object row, int kind) {
        storeNames.add(newName());
        rows.add(row);
        kinds.add(kind);
    }

    private void tellTexture() {
        Texture t = new Texture();
        String name = newName();
        literal("on");
        Token on = name();
        t.store = storeNames.indexOf(on.text);
        if (t.store < 0 || kinds.get(t.store) < 1 || kinds.get(t.store) > 7) {
            throw new Fault(3, on.place);
        }
        literal("at");
        t.first = number(n -> n <= 399);
        literal("size");
        t.width = number(n -> isPower(n, 16));
        literal("by");
        t.height = number(n -> isPower(n, 16));
        literal("levels");
        int place = tokens.get(next).place;
        t.levels = number(n -> n >= 1 && 1 << n - 1 <= Math.max(t.width, t.height) && n <= 5);
        if (t.firstOf(t.levels) > Array.getLength(rows.get(t.store))) {
            throw new Fault(5, place);
        }
        t.order = choice(ORDERS);
        t.wrap = choice(WRAPS);
        textureNames.add(name);
        textures.add(t);
    }

    private void tellFill() {
        Token of = name();
        if (!textureNames.contains(of.text)) {
            throw new Fault(3, of.place);
        }
        int a = number(n -> n <= 9999);
        int b = number(n -> n <= 9999);
        pour(textures.get(textureNames.indexOf(of.text)), a, b, number(n -> n <= 9999));
    }

    int fault(int what) {
        return what == 0 ? fault : what == 1 ? faultPlace : NONE;
    }

    private boolean has(int store) {
        return store >= 0 && store < rows.size();
    }

    private boolean isRow(int store) {
        return has(store) && kinds.get(store) < 10;
    }

    int kind(int store) {
        return has(store) ? kinds.get(store) : NONE;
    }

    int length(int store) {
        if (!has(store)) {
            return NONE;
        }
        try {
            return Array.getLength(rows.get(store));
        } catch (NullPointerException e) {
            return -3;
        } catch (IllegalArgumentException e) {
            return -2;
        }
    }

    private static long numberOf(Object thing) {
        if (thing == null) {
            return -1;
        }
        if (thing instanceof Boolean bit) {
            return bit ? 1 : 0;
        }
        if (thing instanceof Character sign) {
            return sign;
        }
        if (thing instanceof Number number) {
            return number.longValue();
        }
        return thing instanceof Texel texel ? texel.number : ((String) thing).length();
    }

    private static long ask(Object row, int how, int place) {
        return switch (how) {
            case 0 -> numberOf(Array.get(row, place));
            case 1 -> Array.getBoolean(row, place) ? 1 : 0;
            case 2 -> Array.getByte(row, place);
            case 3 -> Array.getChar(row, place);
            case 4 -> Array.getShort(row, place);
            case 5 -> Array.getInt(row, place);
            case 6 -> Array.getLong(row, place);
            case 7 -> (long) Array.getFloat(row, place);
            default -> (long) Array.getDouble(row, place);
        };
    }

    private static void set(Object row, int how, int place, int v) {
        switch (how) {
            case 1 -> Array.setBoolean(row, place, v != 0);
            case 2 -> Array.setByte(row, place, (byte) v);
            case 3 -> Array.setChar(row, place, (char) v);
            case 4 -> Array.setShort(row, place, (short) v);
            case 5 -> Array.setInt(row, place, v);
            case 6 -> Array.setLong(row, place, v);
            case 7 -> Array.setFloat(row, place, v);
            default -> Array.setDouble(row, place, v);
        }
    }

    private static Object boxed(int box, int v) {
        return switch (box) {
            case 0 -> null;
            case 1 -> v != 0;
            case 2 -> (byte) v;
            case 3 -> (char) v;
            case 4 -> (short) v;
            case 5 -> v;
            case 6 -> (long) v;
            case 7 -> (float) v;
            case 8 -> (double) v;
            case 9 -> new Texel(v);
            default -> "abcdef".substring(0, v);
        };
    }

    private int refused(Runnable act) {
        try {
            act.run();
            return 0;
        } catch (NullPointerException e) {
            return 3;
        } catch (ArrayIndexOutOfBoundsException e) {
            return 1;
        } catch (IllegalArgumentException e) {
            return 2;
        }
    }

    int peek(int store, int how, int place) {
        if (!has(store) || how < 0 || how > 8) {
            return STRANGE;
        }
        long[] number = new long[1];
        int refused = refused(() -> number[0] = ask(rows.get(store), how, place));
        return refused == 0 ? (int) number[0] : STRANGE - refused;
    }

    private static Object copy(Object row) {
        if (row == null || !row.getClass().isArray()) {
            return row;
        }
        Object copy = Array.newInstance(row.getClass().getComponentType(), Array.getLength(row));
        System.arraycopy(row, 0, copy, 0, Array.getLength(row));
        return copy;
    }

    private void keep(int store, Object before) {
        acts.push(new Act(store, before));
        if (acts.size() > 20) {
            acts.removeLast();
        }
    }

    private static boolean alike(Object one, Object other) {
        for (int place = 0; place < Array.getLength(one); place++) {
            if (numberOf(Array.get(one, place)) != numberOf(Array.get(other, place))) {
                return false;
            }
        }
        return true;
    }

    int poke(int store, int how, int place, int v) {
        if (!has(store) || how < 1 || how > 8 || Math.abs((long) v) > 1000000) {
            return NONE;
        }
        Object before = copy(rows.get(store));
        int refused = refused(() -> set(rows.get(store), how, place, v));
        if (refused == 0 && !alike(before, rows.get(store))) {
            keep(store, before);
        }
        return refused;
    }

    int put(int store, int place, int box, int v) {
        boolean none = box == 10 ? v < 0 || v > 6 : box != 0 && Math.abs((long) v) > 1000000;
        if (!has(store) || box < 0 || box > 10 || none) {
            return NONE;
        }
        Object before = copy(rows.get(store));
        int refused = refused(() -> Array.set(rows.get(store), place, boxed(box, v)));
        if (refused == 0) {
            boolean act = box == 0 ? Array.get(before, place) != null : box >= 9 || !alike(before, rows.get(store));
            if (act) {
                keep(store, before);
            }
        }
        return refused;
    }

    int convert(int from, int to) {
        if (from == to || !isRow(from) || !isRow(to)) {
            return NONE;
        }
        Object row = rows.get(to);
        Object before = copy(row);
        int refused = 0;
        boolean act = false;
        for (int place = 0; place < Math.min(length(from), length(to)); place++) {
            Object thing = Array.get(rows.get(from), place);
            int at = place;
            if (refused(() -> Array.set(row, at, thing)) != 0) {
                refused++;
            } else if (thing instanceof Texel || thing instanceof String) {
                act = true;
            } else if (thing == null ? Array.get(before, place) != null : !Array.get(before, place).equals(Array.get(row, place))) {
                act = true;
            }
        }
        if (act) {
            keep(to, before);
        }
        return refused;
    }

    int unlike(int one, int other) {
        if (!isRow(one) || !isRow(other)) {
            return NONE;
        }
        for (int place = 0; place < Math.min(length(one), length(other)); place++) {
            if (peek(one, 0, place) != peek(other, 0, place)) {
                return place;
            }
        }
        return -2;
    }

    long total(int store) {
        long sum = 0;
        for (int place = 0; place < length(store); place++) {
            sum += peek(store, 0, place);
        }
        return sum;
    }

    int find(int store, int from, int number) {
        if (from < 0) {
            return NONE;
        }
        for (int place = from; place < length(store); place++) {
            if (peek(store, 0, place) == number) {
                return place;
            }
        }
        return NONE;
    }

    int loses(int store, int kind) {
        if (!isRow(store) || kind < 0 || kind > 9) {
            return NONE;
        }
        PlainBank other = new PlainBank();
        other.tell("store a " + KINDS.get(kind) + " " + length(store) + ";store b bits 1;");
        other.rows.set(1, rows.get(store));
        other.kinds.set(1, kinds.get(store));
        return other.convert(1, 0);
    }

    int undo() {
        if (acts.isEmpty()) {
            return NONE;
        }
        Act act = acts.pop();
        System.arraycopy(act.before, 0, rows.get(act.store), 0, length(act.store));
        return acts.size();
    }

    private Texture texture(int texture) {
        return texture >= 0 && texture < textures.size() ? textures.get(texture) : null;
    }

    private boolean hasLevel(int texture, int level) {
        return texture(texture) != null && level >= 0 && level < texture(texture).levels;
    }

    int texture(int texture, int what) {
        Texture t = texture(texture);
        if (t == null || what < 0 || what > 7) {
            return NONE;
        }
        return new int[] {t.store, t.first, t.width, t.height, t.levels, t.order, t.wrap, t.places()}[what];
    }

    int level(int texture, int level, int what) {
        if (!hasLevel(texture, level) || what < 0 || what > 2) {
            return NONE;
        }
        Texture t = texture(texture);
        return new int[] {t.wide(level), t.high(level), t.firstOf(level)}[what];
    }

    int place(int texture, int level, int x, int y) {
        Texture t = texture(texture);
        if (!hasLevel(texture, level) || x < 0 || x >= t.wide(level) || y < 0 || y >= t.high(level)) {
            return NONE;
        }
        return t.firstOf(level) + t.behind(level, x, y, t.order);
    }

    int at(int texture, int level, int place) {
        if (!hasLevel(texture, level)) {
            return NONE;
        }
        List<Integer> lying = texture(texture).lying(level, texture(texture).order);
        return place >= 0 && place < lying.size() ? lying.get(place) : NONE;
    }

    int moved(int texture, int level, int place, int order) {
        int texel = at(texture, level, place);
        if (texel == NONE || order < 0 || order > 2) {
            return NONE;
        }
        return texture(texture).lying(level, order).indexOf(texel);
    }

    int texel(int texture, int level, int x, int y) {
        int place = place(texture, level, x, y);
        return place == NONE ? STRANGE : peek(texture(texture).store, 0, place);
    }

    private void setTexel(Texture t, Object row, int level, int x, int y, long v) {
        int place = t.firstOf(level) + t.behind(level, x, y, t.order);
        int kind = kinds.get(t.store);
        Array.set(row, place, boxed(kind + 1, (int) v));
    }

    private long made(Texture t, Object row, int level, int x, int y) {
        long sum = 0;
        long count = 0;
        for (int underY = 2 * y; underY <= 2 * y + 1 && underY < t.high(level - 1); underY++) {
            for (int underX = 2 * x; underX <= 2 * x + 1 && underX < t.wide(level - 1); underX++) {
                sum += numberOf(Array.get(row, t.firstOf(level - 1) + t.behind(level - 1, underX, underY, t.order)));
                count++;
            }
        }
        return sum / count;
    }

    private void makeAll(Texture t, Object row) {
        for (int level = 1; level < t.levels; level++) {
            for (int texel = 0; texel < t.wide(level) * t.high(level); texel++) {
                int x = texel % t.wide(level);
                int y = texel / t.wide(level);
                setTexel(t, row, level, x, y, made(t, row, level, x, y));
            }
        }
    }

    private void pour(Texture t, long a, long b, long c) {
        Object row = rows.get(t.store);
        for (int texel = 0; texel < t.width * t.height; texel++) {
            int x = texel % t.width;
            int y = texel / t.width;
            setTexel(t, row, 0, x, y, a * x + b * y + c);
        }
        makeAll(t, row);
    }

    private int others(int store, Object before) {
        int others = 0;
        for (int place = 0; place < length(store); place++) {
            others += numberOf(Array.get(before, place)) != peek(store, 0, place) ? 1 : 0;
        }
        if (others > 0) {
            keep(store, before);
        }
        return others;
    }

    int paint(int texture, int x, int y, int v) {
        if (place(texture, 0, x, y) == NONE || Math.abs((long) v) > 1000000) {
            return NONE;
        }
        Texture t = texture(texture);
        Object before = copy(rows.get(t.store));
        setTexel(t, rows.get(t.store), 0, x, y, v);
        makeAll(t, rows.get(t.store));
        return others(t.store, before);
    }

    int fill(int texture, int a, int b, int c) {
        boolean can = Math.abs((long) a) <= 9999 && Math.abs((long) b) <= 9999 && Math.abs((long) c) <= 9999;
        Texture t = texture(texture);
        if (t == null || !can) {
            return NONE;
        }
        Object before = copy(rows.get(t.store));
        pour(t, a, b, c);
        return others(t.store, before);
    }

    int make(int texture) {
        Texture t = texture(texture);
        if (t == null) {
            return NONE;
        }
        Object before = copy(rows.get(t.store));
        makeAll(t, rows.get(t.store));
        return others(t.store, before);
    }

    int stale(int texture) {
        Texture t = texture(texture);
        if (t == null) {
            return NONE;
        }
        int stale = 0;
        Object row = rows.get(t.store);
        for (int level = 1; level < t.levels; level++) {
            for (int texel = 0; texel < t.wide(level) * t.high(level); texel++) {
                int x = texel % t.wide(level);
                int y = texel / t.wide(level);
                Object then = copy(row);
                setTexel(t, then, level, x, y, made(t, row, level, x, y));
                stale += alike(row, then) ? 0 : 1;
            }
        }
        return stale;
    }

    int wrap(int texture, int c, int n) {
        return texture(texture) == null || Math.abs((long) c) > 99999 || n < 1 || n > 16 ? NONE : texture(texture).wrapped(c, n);
    }

    int area(int texture, int level, int x, int y, int columns, int rows) {
        boolean can = Math.abs((long) x) <= 999 && Math.abs((long) y) <= 999 && columns > 0 && columns < 17 && rows > 0 && rows < 17;
        if (!hasLevel(texture, level) || !can) {
            return STRANGE;
        }
        long sum = 0;
        for (int k = 0; k < columns * rows; k++) {
            sum += wrappedNumber(texture, level, x + k / rows, y + k % rows);
        }
        return (int) (sum / (columns * rows));
    }

    private int wrappedNumber(int texture, int level, long x, long y) {
        Texture t = texture(texture);
        return texel(texture, level, t.wrapped(x, t.wide(level)), t.wrapped(y, t.high(level)));
    }

    private static boolean sampled(int u, int v) {
        return Math.abs((long) u) <= 9999 && Math.abs((long) v) <= 9999;
    }

    int nearest(int texture, int level, int u, int v) {
        if (!hasLevel(texture, level) || !sampled(u, v)) {
            return STRANGE;
        }
        int by = 16 << level;
        return wrappedNumber(texture, level, Math.floorDiv(u, by), Math.floorDiv(v, by));
    }

    int smooth(int texture, int level, int u, int v) {
        return hasLevel(texture, level) && sampled(u, v) ? smoothed(texture, level, u, v) : STRANGE;
    }

    private int smoothed(int texture, int level, int u, int v) {
        int atU = Math.floorDiv(u, 1 << level) - 8;
        int atV = Math.floorDiv(v, 1 << level) - 8;
        long sum = 0;
        for (int k = 0; k < 4; k++) {
            long weightU = k % 2 == 0 ? 16 - Math.floorMod(atU, 16) : Math.floorMod(atU, 16);
            long weightV = k / 2 == 0 ? 16 - Math.floorMod(atV, 16) : Math.floorMod(atV, 16);
            sum += weightU * weightV * wrappedNumber(texture, level, Math.floorDiv(atU, 16) + k % 2, Math.floorDiv(atV, 16) + k / 2);
        }
        return (int) (sum / 256);
    }

    int blend(int texture, int u, int v, int depth) {
        if (texture(texture) == null || !sampled(u, v) || depth < 0 || depth > 160) {
            return STRANGE;
        }
        int last = texture(texture).levels - 1;
        if (depth >= 16 * last) {
            return smoothed(texture, last, u, v);
        }
        long below = smoothed(texture, depth / 16, u, v);
        long above = smoothed(texture, depth / 16 + 1, u, v);
        return (int) ((below * (16 - depth % 16) + above * (depth % 16)) / 16);
    }

    private static int upBy(int number, int by) {
        return number / by + (number % by > 0 ? 1 : 0);
    }

    private static boolean footprint(int... parts) {
        for (int part : parts) {
            if (part < -999 || part > 999) {
                return false;
            }
        }
        return true;
    }

    int axis(int u, int v, int otherU, int otherV, int what) {
        if (!footprint(u, v, otherU, otherV) || what < 0 || what > 3) {
            return NONE;
        }
        int one = Math.abs(u) + Math.abs(v);
        int other = Math.abs(otherU) + Math.abs(otherV);
        int which = one >= other ? 0 : 1;
        int longest = which == 0 ? one : other;
        int shortest = which == 0 ? other : one;
        int taps = shortest == 0 ? (longest == 0 ? 1 : 8) : upBy(longest, shortest);
        taps = taps > 8 ? 8 : taps;
        int halved = 0;
        for (int step = upBy(longest, taps); step > 16; step = upBy(step, 2)) {
            halved++;
        }
        return new int[] {taps, longest, which, halved}[what];
    }

    int filtered(int texture, int u, int v, int axisU, int axisV, int otherU, int otherV) {
        if (texture(texture) == null || !sampled(u, v) || !footprint(axisU, axisV, otherU, otherV)) {
            return STRANGE;
        }
        int taps = axis(axisU, axisV, otherU, otherV, 0);
        boolean first = axis(axisU, axisV, otherU, otherV, 2) == 0;
        int level = Math.min(axis(axisU, axisV, otherU, otherV, 3), texture(texture).levels - 1);
        long sum = 0;
        for (int k = 0; k < taps; k++) {
            int aside = (first ? axisU : otherU) * (2 * k + 1 - taps) / (2 * taps);
            int down = (first ? axisV : otherV) * (2 * k + 1 - taps) / (2 * taps);
            sum += smoothed(texture, level, u + aside, v + down);
        }
        return (int) (sum / taps);
    }

    int unpack(long block, int x, int y) {
        if (x < 0 || x > 3 || y < 0 || y > 3) {
            return NONE;
        }
        int a = (int) (block & 0xFFFF);
        int b = (int) (block >>> 16 & 0xFFFF);
        int[] choices = a > b ? new int[] {a, b, (2 * a + b) / 3, (a + 2 * b) / 3} : new int[] {a, b, (a + b) / 2, 0};
        return choices[(int) (block >>> 32 + 2 * (y * 4 + x) & 3)];
    }

    private int kept(int texture, int level, int x, int y) {
        return Math.min(65535, Math.max(0, wrappedNumber(texture, level, x, y)));
    }

    long pack(int texture, int level, int x, int y) {
        if (!hasLevel(texture, level) || x < 0 || x > 3 || y < 0 || y > 3) {
            return 0;
        }
        long a = 0;
        long b = 65535;
        for (int k = 0; k < 16; k++) {
            a = Math.max(a, kept(texture, level, 4 * x + k % 4, 4 * y + k / 4));
            b = Math.min(b, kept(texture, level, 4 * x + k % 4, 4 * y + k / 4));
        }
        long block = a | b << 16;
        for (int k = 0; k < 16; k++) {
            int number = kept(texture, level, 4 * x + k % 4, 4 * y + k / 4);
            long best = 0;
            for (long choice = 3; choice >= 0; choice--) {
                int bestOff = Math.abs(unpack(block | best << 32 + 2 * k, k % 4, k / 4) - number);
                int off = Math.abs(unpack(block | choice << 32 + 2 * k, k % 4, k / 4) - number);
                best = off < bestOff || off == bestOff && choice < best ? choice : best;
            }
            block |= best << 32 + 2 * k;
        }
        return block;
    }

    int off(int texture, int level, int x, int y) {
        if (!hasLevel(texture, level) || x < 0 || x > 3 || y < 0 || y > 3) {
            return NONE;
        }
        long block = pack(texture, level, x, y);
        int off = 0;
        for (int k = 0; k < 16; k++) {
            off += Math.abs(unpack(block, k % 4, k / 4) - kept(texture, level, 4 * x + k % 4, 4 * y + k / 4));
        }
        return off;
    }

    private static List<List<Integer>> emptySets(int count) {
        List<List<Integer>> sets = new ArrayList<>();
        for (int k = 0; k < count; k++) {
            sets.add(new ArrayList<>());
        }
        return sets;
    }

    /** Whether a LINE is held; it is then, the one that was FETCHED least lately in front. */
    private boolean hit(List<List<Integer>> of, Integer line) {
        List<Integer> set = of.get(line % sets);
        boolean hit = set.remove(line);
        set.add(line);
        if (set.size() > ways) {
            set.remove(0);
        }
        return hit;
    }

    int fetch(int texture, int level, int x, int y) {
        int place = place(texture, level, x, y);
        if (place == NONE) {
            return NONE;
        }
        int line = (400 * texture(texture).store + place) / span;
        boolean hit = hit(held, line);
        fetched.merge(line, 1, Integer::sum);
        hits += hit ? 1 : 0;
        misses += hit ? 0 : 1;
        return hit ? 1 : 0;
    }

    private int heldLines() {
        int lines = 0;
        for (List<Integer> set : held) {
            lines += set.size();
        }
        return lines;
    }

    int flush() {
        int lines = heldLines();
        held = emptySets(sets);
        fetched = new TreeMap<>();
        hits = 0;
        misses = 0;
        return lines;
    }

    private static List<Integer> walked(Texture t, int level, int how, int order) {
        int wide = t.wide(level);
        if (how == 2) {
            return t.lying(level, order);
        }
        List<Integer> texels = new ArrayList<>(t.lying(level, 0));
        if (how == 1) {
            texels.sort(Comparator.<Integer>comparingInt(k -> k % wide).thenComparingInt(k -> k / wide));
        } else if (how == 3) {
            texels.sort(Texture.inTiles(wide));
        }
        return texels;
    }

    int walkAs(int texture, int level, int how, int order) {
        if (!hasLevel(texture, level) || how < 0 || how > 3 || order < 0 || order > 2) {
            return NONE;
        }
        Texture t = texture(texture);
        List<Integer> lying = t.lying(level, order);
        List<List<Integer>> empty = emptySets(sets);
        int missed = 0;
        for (int texel : walked(t, level, how, order)) {
            missed += hit(empty, (400 * t.store + t.firstOf(level) + lying.indexOf(texel)) / span) ? 0 : 1;
        }
        return missed;
    }

    int walk(int texture, int level, int how) {
        return texture(texture) == null ? NONE : walkAs(texture, level, how, texture(texture).order);
    }

    int bestWalk(int texture, int level) {
        int best = NONE;
        for (int how = 3; how >= 0 && hasLevel(texture, level); how--) {
            best = best < 0 || walk(texture, level, how) <= walk(texture, level, best) ? how : best;
        }
        return best;
    }

    int bestOrder(int texture, int level, int how) {
        int best = NONE;
        for (int order = 2; order >= 0 && walk(texture, level, how) != NONE; order--) {
            best = best < 0 || walkAs(texture, level, how, order) <= walkAs(texture, level, how, best) ? order : best;
        }
        return best;
    }

    int leaves(int set) {
        return set >= 0 && set < sets && held.get(set).size() == ways ? held.get(set).get(0) : NONE;
    }

    int hottest(int k, int what) {
        List<Integer> lines = new ArrayList<>(fetched.keySet());
        lines.sort(Comparator.<Integer>comparingInt(line -> -fetched.get(line)).thenComparingInt(line -> line));
        if (k < 0 || k >= lines.size() || what < 0 || what > 1) {
            return NONE;
        }
        return what == 0 ? lines.get(k) : fetched.get(lines.get(k));
    }

    private int remainder() {
        long sum = 0;
        for (int store = 0; store < rows.size(); store++) {
            sum += total(store);
        }
        return (int) ((sum % 1000003 + 1000003) % 1000003);
    }

    int image(int box) {
        if (box != 0 && box != 1) {
            return NONE;
        }
        boxes[box] = new Object[rows.size()];
        for (int store = 0; store < rows.size(); store++) {
            boxes[box][store] = copy(rows.get(store));
        }
        return remainder();
    }

    int back(int box) {
        if (box != 0 && box != 1 || boxes[box] == null) {
            return NONE;
        }
        for (int store = 0; store < rows.size(); store++) {
            rows.set(store, copy(boxes[box][store]));
        }
        acts.clear();
        return remainder();
    }

    int about(int what) {
        int places = 0;
        for (int store = 0; store < rows.size(); store++) {
            places += Math.max(0, length(store));
        }
        int[] all = {rows.size(), textures.size(), sets, ways, span, hits, misses, heldLines(), acts.size(), tape.length(), places};
        return what >= 0 && what < all.length ? all[what] : NONE;
    }
}
