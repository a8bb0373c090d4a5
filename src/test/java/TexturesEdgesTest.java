/** The edges that the document names of LEVELS, orders, what is MADE, WRAPS, and in promises 17 to 25 and 40 to 42. */
public final class TexturesEdgesTest {
    private static final String TERMS = Document.TERMS;
    private static final int STRANGE = TexelBank.STRANGE;
    private static final String S = "store s ints 400;";
    private static final int[] SIDES = {1, 2, 4, 8, 16};
    private static final int[] FAR = {-1, -2, Integer.MIN_VALUE, Integer.MAX_VALUE};

    public static void main(String[] args) {
        sizes();
        rowsAndTiles();
        curves();
        making();
        makingFew();
        cuttingWhatIsMade();
        filling();
        wrapping();
        telling();
        levelling();
        placing();
        lying();
        reading();
        painting();
        fillRanges();
        makingAll();
        wrapRanges();
        moving();
        areas();
        stale();
        Due.close();
    }

    private static String texture(String name, int first, int width, int height, int levels, String order, String wrap) {
        return "texture " + name + " on s at " + first + " size " + width + " by " + height + " levels " + levels + " " + order + " " + wrap + ";";
    }

    private static int most(int width, int height) {
        return 1 + Integer.numberOfTrailingZeros(Math.max(width, height));
    }

    private static void sizes() {
        Due.sentence(TERMS, "LEVEL l of a TEXTURE is WIDTH, HEIGHT halved l times (1 at least) wide and high; LEVELS lie one behind "
            + "another from its PLACE on.");
        for (int width : SIDES) {
            for (int height : SIDES) {
                int levels = most(width, height);
                TexelBank x = Due.told(S + texture("p", 5, width, height, levels, "tiles", "clamp"));
                int wide = width;
                int high = height;
                int first = 5;
                for (int level = 0; level < levels; level++) {
                    Due.due("wide", x.level(0, level, 0), wide);
                    Due.due("high", x.level(0, level, 1), high);
                    Due.due("first place", x.level(0, level, 2), first);
                    first += wide * high;
                    wide = wide == 1 ? 1 : wide / 2;
                    high = high == 1 ? 1 : high / 2;
                }
                Due.due("all places", x.texture(0, 7), first - 5);
                Due.due("beyond the last level", x.level(0, levels, 0), -1);
            }
        }
    }

    private static void rowsAndTiles() {
        Due.sentence(TERMS, "Of a TEXEL x, y the PLACE in its LEVEL of width w: by rows y * w + x");
        for (int width : SIDES) {
            for (int height : SIDES) {
                TexelBank x = Due.told(S + texture("p", 9, width, height, 1, "rows", "clamp"));
                Due.due("the last of the first row", x.place(0, 0, width - 1, 0), 9 + width - 1);
                Due.due("the first of the last row", x.place(0, 0, 0, height - 1), 9 + width * height - width);
                Due.due("the last of all", x.place(0, 0, width - 1, height - 1), 9 + width * height - 1);
            }
        }
        Due.sentence(TERMS, "by tiles (4 by 4 if it is so wide and high, else as rows): tiles row by row, in each row by row");
        for (int width : SIDES) {
            for (int height : SIDES) {
                TexelBank x = Due.told(S + texture("p", 0, width, height, 1, "tiles", "clamp"));
                boolean tiled = width >= 4 && height >= 4;
                for (int k = 0; k < width * height; k++) {
                    int tile = k / 16;
                    int left = tiled ? tile % (width / 4) * 4 : 0;
                    int top = tiled ? tile / (width / 4) * 4 : 0;
                    int texel = tiled ? (top + k % 16 / 4) * width + left + k % 4 : k;
                    Due.due("at(0, 0, " + k + ") of " + width + " by " + height, x.at(0, 0, k), texel);
                }
            }
        }
        TexelBank x = Due.told(S + texture("p", 0, 16, 8, 5, "tiles", "clamp"));
        Due.due("place in the second tile", x.place(0, 0, 4, 0), 16);
        Due.due("place in the second row of tiles", x.place(0, 0, 0, 4), 64);
        Due.due("level 1 is two tiles", x.place(0, 1, 4, 1), 128 + 16 + 4);
        Due.due("level 2 is too low: rows", x.place(0, 2, 3, 1), 128 + 32 + 7);
    }

    private static void curves() {
        Due.sentence(TERMS, "along curves: the bits of x and y by turns, x's lowest first, as long as both have any (so many as w, "
            + "the height need), "
            + "then the rest of the longer");
        for (int width : SIDES) {
            for (int height : SIDES) {
                TexelBank x = Due.told(S + texture("p", 0, width, height, 1, "curves", "clamp"));
                int shared = Math.min(width, height);
                for (int k = 0; k < width * height; k++) {
                    int column = k / (shared * shared) * (width > height ? shared : 0);
                    int row = k / (shared * shared) * (height > width ? shared : 0);
                    for (int bit = 0; 1 << bit < shared; bit++) {
                        column += (k >> 2 * bit & 1) << bit;
                        row += (k >> 2 * bit + 1 & 1) << bit;
                    }
                    Due.due("at(0, 0, " + k + ") of " + width + " by " + height, x.at(0, 0, k), row * width + column);
                    if (width * height <= 64) {
                        Due.due("place(0, 0, " + column + ", " + row + ")", x.place(0, 0, column, row), k);
                    }
                }
            }
        }
    }

    private static void making() {
        Due.sentence(TERMS, "the sum of those four of the LEVEL below that lie under it (2 x, 2 y and 1 more each; those that there "
            + "are) by how many these are (cut)");
        int[][] due = {{0, 0, 0, 3, 0}, {0, 0, 0, 4, 1}, {1, 2, 3, 1, 1}, {-1, -1, -1, 0, 0}, {-1, -1, -1, -1, -1}, {-1, -2, -3, -1, -1},
            {1000000, 1000000, 1000000, 1000000, 1000000}, {-1000000, -1000000, -1000000, -999999, -999999}, {-1000000, 1000000, 7, 0, 1}};
        for (int[] row : due) {
            TexelBank x = Due.told(S + texture("p", 0, 2, 2, 2, "rows", "clamp"));
            for (int k = 0; k < 4; k++) {
                x.paint(0, k % 2, k / 2, row[k]);
            }
            Due.due("made of " + row[0] + " " + row[1] + " " + row[2] + " " + row[3], x.texel(0, 1, 0, 0), row[4]);
        }
        TexelBank x = Due.told(S + texture("p", 0, 8, 8, 4, "curves", "clamp"));
        x.paint(0, 7, 7, 256);
        x.paint(0, 6, 0, 1024);
        Due.due("under the last one", x.texel(0, 1, 3, 3), 64);
        Due.due("under the last of the first row", x.texel(0, 1, 3, 0), 256);
        Due.due("beside it", x.texel(0, 1, 2, 3), 0);
        Due.due("level by level", x.texel(0, 2, 1, 1), 16);
        Due.due("level by level", x.texel(0, 3, 0, 0), (64 + 16) / 4);
    }

    private static void makingFew() {
        Due.sentence(TERMS, "those that there are");
        TexelBank x = Due.told(S + texture("p", 0, 16, 1, 5, "curves", "clamp") + texture("q", 100, 1, 16, 5, "tiles", "repeat"));
        x.fill(0, 3, 0, 0);
        x.fill(1, 0, -3, 0);
        int[] wide = {0, 3, 6, 9, 12, 15, 18, 21, 24, 27, 30, 33, 36, 39, 42, 45};
        for (int level = 1, count = 8; level < 5; level++, count /= 2) {
            for (int k = 0; k < count; k++) {
                wide[k] = (wide[2 * k] + wide[2 * k + 1]) / 2;
                Due.due("one high: of two, level " + level, x.texel(0, level, k, 0), wide[k]);
                Due.due("one wide: of two, level " + level, x.texel(1, level, 0, k), -wide[k]);
            }
        }
        x = Due.told(S + texture("p", 0, 2, 4, 3, "rows", "clamp") + "fill p 1 10 0;");
        Due.due("of four", x.texel(0, 1, 0, 1), (20 + 21 + 30 + 31) / 4);
        Due.due("then of two", x.texel(0, 2, 0, 0), (5 + 25) / 2);
    }

    private static void cuttingWhatIsMade() {
        Due.sentence(TERMS, "cut to its KIND (as if set as ints, longs: where that does not widen, the lowest bits)");
        String[] kinds = {"bytes", "chars", "shorts", "ints", "longs", "floats", "doubles"};
        int[] painted = {127, 128, -128, -129, 255, 256, 32767, 32768, -32769, 65535, 65536, -1, 1000000, -1000000};
        for (int kind = 0; kind < kinds.length; kind++) {
            TexelBank x = Due.told("store s " + kinds[kind] + " 400;" + texture("p", 0, 1, 2, 2, "rows", "clamp"));
            for (int v : painted) {
                int due = kind == 0 ? (byte) v : kind == 1 ? (char) v : kind == 2 ? (short) v : v;
                x.paint(0, 0, 0, v);
                x.paint(0, 0, 1, v);
                Due.due(v + " in " + kinds[kind], x.texel(0, 0, 0, 0), due);
                Due.due(v + " made in " + kinds[kind], x.texel(0, 1, 0, 0), due);
            }
        }
    }

    private static void filling() {
        Due.sentence(TERMS, "TEXEL x, y of LEVEL 0 is a * x + b * y + c, cut to the KIND likewise; then all is MADE");
        int[][] factors = {{9999, 9999, 9999}, {-9999, -9999, -9999}, {0, 0, 0}, {1, 0, 0}, {0, 1, 0}, {0, 0, 1}, {9999, -9999, 0}, {17, 256, -128}};
        String[] kinds = {"bytes", "chars", "shorts", "ints", "longs", "floats", "doubles"};
        for (int kind = 0; kind < kinds.length; kind++) {
            for (int[] f : factors) {
                TexelBank x = Due.told("store s " + kinds[kind] + " 400;" + texture("p", 59, 16, 16, 5, "curves", "clamp"));
                x.fill(0, f[0], f[1], f[2]);
                for (int k = 0; k < 256; k += 15) {
                    int v = f[0] * (k % 16) + f[1] * (k / 16) + f[2];
                    int due = kind == 0 ? (byte) v : kind == 1 ? (char) v : kind == 2 ? (short) v : v;
                    Due.due("texel " + k + " of " + kinds[kind], x.texel(0, 0, k % 16, k / 16), due);
                }
                Due.due("all is made", x.stale(0), 0);
                Due.due("the place ahead of it", x.peek(0, 0, 58), 0);
                Due.due("nothing to make", x.make(0), 0);
            }
        }
    }

    private static void wrapping() {
        Due.sentence(TERMS, "repeat: c modulo n (0 at least); clamp: 0 at least, n - 1 at most; mirror: c modulo 2 n (0 at least), "
            + "from n on 2 n - 1 less that");
        TexelBank x = null;
        int calls = 500;
        for (int n = 1; n <= 16; n++) {
            for (int c = -3 * n; c <= 3 * n; c++) {
                if (calls > 490) {
                    x = Due.told(S + texture("p", 0, 1, 1, 1, "rows", "repeat") + texture("q", 0, 2, 1, 1, "rows", "clamp")
                        + texture("r", 0, 16, 16, 1, "rows", "mirror"));
                    calls = 20;
                }
                calls += 3;
                int turns = c + 4 * n;
                int turn = turns % (2 * n);
                String of = "wrap of " + c + " by " + n;
                Due.due(of + ", repeated", x.wrap(0, c, n), turns % n);
                Due.due(of + ", clamped", x.wrap(1, c, n), c < 0 ? 0 : c < n ? c : n - 1);
                Due.due(of + ", mirrored", x.wrap(2, c, n), turn < n ? turn : 2 * n - 1 - turn);
            }
        }
    }

    private static void telling() {
        TexelBank x = Due.told("none t;" + S + texture("p", 399, 1, 1, 1, "rows", "repeat") + texture("q", 0, 16, 16, 5, "curves", "mirror"));
        Due.sentence("Promise 17", "7: how many PLACES it has");
        int[][] due = {{1, 399, 1, 1, 1, 0, 0, 1}, {1, 0, 16, 16, 5, 2, 2, 341}};
        for (int texture = 0; texture < 2; texture++) {
            for (int what = 0; what < 8; what++) {
                Due.due("texture(" + texture + ", " + what + ")", x.texture(texture, what), due[texture][what]);
            }
        }
        Due.sentence("Promise 17", "NONE if there is none such, or for another what");
        for (int far : FAR) {
            Due.due("texture(" + far + ", 0)", x.texture(far, 0), -1);
            Due.due("texture(0, " + far + ")", x.texture(0, far), -1);
        }
        Due.due("texture(2, 0)", x.texture(2, 0), -1);
        Due.due("texture(4, 0)", x.texture(4, 0), -1);
        Due.due("texture(0, 8)", x.texture(0, 8), -1);
    }

    private static void levelling() {
        TexelBank x = Due.told(S + texture("p", 9, 16, 2, 3, "rows", "repeat"));
        Due.sentence("Promise 18", "NONE if there is none such, or for another what");
        for (int far : FAR) {
            Due.due("level(" + far + ", 0, 0)", x.level(far, 0, 0), -1);
            Due.due("level(0, " + far + ", 0)", x.level(0, far, 0), -1);
            Due.due("level(0, 0, " + far + ")", x.level(0, 0, far), -1);
        }
        Due.due("level(1, 0, 0)", x.level(1, 0, 0), -1);
        for (int what = 0; what < 3; what++) {
            Due.due("level(0, 3, " + what + ")", x.level(0, 3, what), -1);
        }
        Due.due("level(0, 0, 3)", x.level(0, 0, 3), -1);
        Due.due("the last level", x.level(0, 2, 2), 9 + 32 + 8);
    }

    private static void placing() {
        Due.sentence("Promise 19", "PLACE (in the STORE) of a TEXEL; NONE if there is none such.");
        for (String order : new String[] {"rows", "tiles", "curves"}) {
            TexelBank x = Due.told(S + texture("p", 59, 16, 16, 5, order, "repeat"));
            for (int level = 0, side = 16, first = 59; level < 5; level++, first += side * side, side /= 2) {
                Due.due("the first of a level", x.place(0, level, 0, 0), first);
                Due.due("the last of a level", x.place(0, level, side - 1, side - 1), first + side * side - 1);
                Due.due("x beyond", x.place(0, level, side, 0), -1);
                Due.due("y beyond", x.place(0, level, 0, side), -1);
                for (int far : FAR) {
                    Due.due("x " + far, x.place(0, level, far, 0), -1);
                    Due.due("y " + far, x.place(0, level, 0, far), -1);
                }
            }
            Due.due("no level", x.place(0, 5, 0, 0), -1);
            Due.due("no texture", x.place(1, 0, 0, 0), -1);
            for (int far : FAR) {
                Due.due("level " + far, x.place(0, far, 0, 0), -1);
                Due.due("texture " + far, x.place(far, 0, 0, 0), -1);
            }
        }
    }

    private static void lying() {
        Due.sentence("Promise 20", "that lies so many PLACES behind the first of its LEVEL; NONE if there is none such");
        for (String order : new String[] {"rows", "tiles", "curves"}) {
            TexelBank x = Due.told(S + texture("p", 59, 16, 16, 5, order, "repeat"));
            for (int level = 0, side = 16; level < 5; level++, side /= 2) {
                Due.due("the first of a level", x.at(0, level, 0), 0);
                Due.due("the last of a level", x.at(0, level, side * side - 1), side * side - 1);
                Due.due("beyond the last of a level", x.at(0, level, side * side), -1);
                for (int far : FAR) {
                    Due.due("place " + far, x.at(0, level, far), -1);
                }
            }
            Due.due("no level", x.at(0, 5, 0), -1);
            Due.due("no texture", x.at(1, 0, 0), -1);
            for (int far : FAR) {
                Due.due("level " + far, x.at(0, far, 0), -1);
                Due.due("texture " + far, x.at(far, 0, 0), -1);
            }
        }
    }

    private static void reading() {
        Due.sentence("Promise 21", "NUMBER of a TEXEL; STRANGE if there is none such.");
        TexelBank x = Due.told(S + texture("p", 396, 2, 1, 2, "rows", "repeat"));
        x.poke(0, 5, 396, 1000000);
        x.poke(0, 5, 397, -1000000);
        x.poke(0, 5, 398, -1);
        Due.due("the first", x.texel(0, 0, 0, 0), 1000000);
        Due.due("the last of level 0", x.texel(0, 0, 1, 0), -1000000);
        Due.due("of level 1", x.texel(0, 1, 0, 0), -1);
        Due.due("x 2", x.texel(0, 0, 2, 0), STRANGE);
        Due.due("x 1 of level 1", x.texel(0, 1, 1, 0), STRANGE);
        Due.due("y 1", x.texel(0, 0, 0, 1), STRANGE);
        Due.due("level 2", x.texel(0, 2, 0, 0), STRANGE);
        Due.due("texture 1", x.texel(1, 0, 0, 0), STRANGE);
        for (int far : FAR) {
            Due.due("texture " + far, x.texel(far, 0, 0, 0), STRANGE);
            Due.due("level " + far, x.texel(0, far, 0, 0), STRANGE);
            Due.due("x " + far, x.texel(0, 0, far, 0), STRANGE);
            Due.due("y " + far, x.texel(0, 0, 0, far), STRANGE);
        }
    }

    private static void painting() {
        Due.sentence("Promise 22", "A TEXEL of LEVEL 0 is v (-1,000,000 .. 1,000,000), cut to its KIND, and all is MADE: how many "
            + "TEXELS have another NUMBER");
        TexelBank x = Due.told(S + texture("p", 0, 4, 4, 3, "rows", "repeat"));
        Due.due("the most", x.paint(0, 3, 3, 1000000), 3);
        Due.due("the same", x.paint(0, 3, 3, 1000000), 0);
        Due.due("acts", x.about(8), 1);
        Due.due("the least", x.paint(0, 3, 3, -1000000), 3);
        Due.due("one, too little for those above", x.paint(0, 0, 0, 3), 1);
        x.poke(0, 5, 17, 5);
        x.poke(0, 5, 18, 6);
        Due.due("what was stale is made, too", x.paint(0, 0, 0, 3), 2);
        x = Due.told("store s bytes 400;" + texture("p", 0, 4, 4, 3, "rows", "repeat"));
        Due.due("cut to 0", x.paint(0, 0, 0, 256), 0);
        Due.due("acts", x.about(8), 0);
        Due.due("cut to -1", x.paint(0, 0, 0, 255), 1);
        Due.due("-1", x.texel(0, 0, 0, 0), -1);
        Due.sentence("Promise 22", "NONE, doing nothing, if one can't be");
        for (int v : new int[] {1000001, -1000001, Integer.MIN_VALUE, Integer.MAX_VALUE}) {
            Due.due("v " + v, x.paint(0, 0, 0, v), -1);
        }
        Due.due("x 4", x.paint(0, 4, 0, 1), -1);
        Due.due("y 4", x.paint(0, 0, 4, 1), -1);
        Due.due("texture 1", x.paint(1, 0, 0, 1), -1);
        for (int far : FAR) {
            Due.due("texture " + far, x.paint(far, 0, 0, 1), -1);
            Due.due("x " + far, x.paint(0, far, 0, 1), -1);
            Due.due("y " + far, x.paint(0, 0, far, 1), -1);
        }
        Due.due("acts", x.about(8), 1);
        Due.due("total", x.total(0), -1);
    }

    private static void fillRanges() {
        Due.sentence("Promise 23", "fill (-9,999 .. 9,999 each): how many TEXELS have another NUMBER");
        TexelBank x = Due.told(S + texture("p", 30, 4, 4, 3, "tiles", "repeat"));
        Due.due("the most", x.fill(0, 9999, 9999, 9999), 21);
        Due.due("the same", x.fill(0, 9999, 9999, 9999), 0);
        Due.due("the least", x.fill(0, -9999, -9999, -9999), 21);
        Due.due("all but the first ones", x.fill(0, 0, 0, -9999), 20);
        Due.due("acts", x.about(8), 3);
        Due.due("all 0", x.fill(0, 0, 0, 0), 21);
        Due.due("one other", x.poke(0, 5, 50, 7), 0);
        Due.due("that one is made", x.fill(0, 0, 0, 0), 1);
        Due.sentence("Promise 23", "NONE, doing nothing, if one can't be");
        for (int far : new int[] {10000, -10000, Integer.MIN_VALUE, Integer.MAX_VALUE}) {
            Due.due("a " + far, x.fill(0, far, 1, 1), -1);
            Due.due("b " + far, x.fill(0, 1, far, 1), -1);
            Due.due("c " + far, x.fill(0, 1, 1, far), -1);
        }
        for (int far : FAR) {
            Due.due("texture " + far, x.fill(far, 1, 1, 1), -1);
        }
        Due.due("texture 1", x.fill(1, 1, 1, 1), -1);
        Due.due("nothing is done", x.total(0), 0);
        Due.due("acts", x.about(8), 6);
    }

    private static void makingAll() {
        Due.sentence("Promise 24", "All is MADE: likewise; NONE if there is none such.");
        TexelBank x = Due.told(S + texture("p", 0, 4, 4, 3, "rows", "repeat") + texture("q", 100, 16, 16, 1, "rows", "repeat"));
        Due.due("nothing to make", x.make(0), 0);
        x.poke(0, 5, 15, 16);
        Due.due("two", x.make(0), 2);
        Due.due("nothing to make then", x.make(0), 0);
        Due.due("acts", x.about(8), 2);
        x.poke(0, 5, 100, 9);
        Due.due("one level: nothing to make", x.make(1), 0);
        x.poke(0, 5, 19, -1);
        x.poke(0, 5, 20, -1);
        Due.due("what is above is made of what is made", x.make(0), 2);
        Due.due("made", x.texel(0, 2, 0, 0), 1);
        for (int far : FAR) {
            Due.due("texture " + far, x.make(far), -1);
        }
        Due.due("texture 2", x.make(2), -1);
    }

    private static void wrapRanges() {
        Due.sentence("Promise 25", "WRAP of a coordinate (-99,999 .. 99,999) by n (1 .. 16), as a TEXTURE does; NONE if one can't be.");
        TexelBank x = Due.told(S + texture("p", 0, 1, 1, 1, "rows", "repeat") + texture("q", 0, 1, 1, 1, "rows", "clamp")
            + texture("r", 0, 1, 1, 1, "rows", "mirror"));
        // 99,999 is 31 more than a multiple of 32
        int[][] due = {{15, 1, 0, 0}, {15, 0, 0, 0}, {0, 1, 0, 0}};
        for (int texture = 0; texture < 3; texture++) {
            Due.due("the most by the most", x.wrap(texture, 99999, 16), due[texture][0]);
            Due.due("the least by the most", x.wrap(texture, -99999, 16), due[texture][1]);
            Due.due("the most by the least", x.wrap(texture, 99999, 1), due[texture][2]);
            Due.due("the least by the least", x.wrap(texture, -99999, 1), due[texture][3]);
            for (int c : new int[] {100000, -100000, Integer.MIN_VALUE, Integer.MAX_VALUE}) {
                Due.due("wrap of " + c, x.wrap(texture, c, 4), -1);
            }
            for (int n : new int[] {0, -1, 17, 18, Integer.MIN_VALUE, Integer.MAX_VALUE}) {
                Due.due("wrap by " + n, x.wrap(texture, 1, n), -1);
            }
        }
        for (int far : FAR) {
            Due.due("texture " + far, x.wrap(far, 0, 1), -1);
        }
        Due.due("texture 3", x.wrap(3, 0, 1), -1);
    }

    private static void moving() {
        Due.sentence("Promise 40", "NONE if there is none such, or no such order");
        TexelBank x = Due.told(S + texture("p", 9, 8, 4, 3, "curves", "repeat"));
        for (int order = 0; order < 3; order++) {
            Due.due("the first", x.moved(0, 0, 0, order), 0);
            Due.due("the last", x.moved(0, 0, 31, order), 31);
            Due.due("beyond", x.moved(0, 0, 32, order), -1);
            Due.due("the last of level 1", x.moved(0, 1, 7, order), 7);
            Due.due("beyond level 1", x.moved(0, 1, 8, order), -1);
            Due.due("no level", x.moved(0, 3, 0, order), -1);
            Due.due("no texture", x.moved(1, 0, 0, order), -1);
            for (int far : FAR) {
                Due.due("place " + far, x.moved(0, 0, far, order), -1);
                Due.due("level " + far, x.moved(0, far, 0, order), -1);
                Due.due("texture " + far, x.moved(far, 0, 0, order), -1);
            }
        }
        for (int far : FAR) {
            Due.due("order " + far, x.moved(0, 0, 0, far), -1);
        }
        Due.due("order 3", x.moved(0, 0, 0, 3), -1);
        // 22 behind along a curve is 1 0 1 1 0: x 4 and 2, y 1; by rows 14, by tiles 16 and 4 and 2
        Due.due("by rows", x.moved(0, 0, 22, 0), 8 + 6);
        Due.due("by tiles", x.moved(0, 0, 22, 1), 16 + 4 + 2);
        Due.due("along a curve", x.moved(0, 0, 22, 2), 22);
    }

    private static void areas() {
        Due.sentence("Promise 41", "NUMBERS of so many columns by so many rows (1 .. 16 each) from x, y on (-999 .. 999 each; WRAPPED "
            + "one by one), "
            + "together, by how many these are (cut); STRANGE if one can't be.");
        String fill = "fill p 1 4 0;fill q 1 4 0;fill r 1 4 0;";
        TexelBank x = Due.told(S + texture("p", 0, 4, 4, 2, "curves", "repeat") + texture("q", 50, 4, 4, 2, "tiles", "clamp")
            + texture("r", 100, 4, 4, 2, "rows", "mirror") + fill);
        // 999 is 1 less than a multiple of 4, and of 8
        int[] firsts = {5, 0, 5};
        int[] lasts = {15, 15, 0};
        for (int texture = 0; texture < 3; texture++) {
            Due.due("one at the least", x.area(texture, 0, -999, -999, 1, 1), firsts[texture]);
            Due.due("one at the most", x.area(texture, 0, 999, 999, 1, 1), lasts[texture]);
            for (int far : new int[] {1000, -1000, Integer.MIN_VALUE, Integer.MAX_VALUE}) {
                Due.due("x " + far, x.area(texture, 0, far, 0, 1, 1), STRANGE);
                Due.due("y " + far, x.area(texture, 0, 0, far, 1, 1), STRANGE);
            }
            for (int far : new int[] {0, -1, 17, 18, Integer.MIN_VALUE, Integer.MAX_VALUE}) {
                Due.due("columns " + far, x.area(texture, 0, 0, 0, far, 1), STRANGE);
                Due.due("rows " + far, x.area(texture, 0, 0, 0, 1, far), STRANGE);
            }
        }
        Due.due("all, four times four", x.area(0, 0, 0, 0, 16, 16), 120 / 16);
        Due.due("16 columns clamped", x.area(1, 0, 0, 0, 16, 1), (0 + 1 + 2 + 13 * 3) / 16);
        Due.due("16 rows clamped", x.area(1, 0, 0, 0, 1, 16), (4 + 8 + 13 * 12) / 16);
        Due.due("16 columns mirrored", x.area(2, 0, 1, 0, 16, 1), (4 * 6) / 16);
        Due.due("columns over the edge", x.area(0, 0, 3, 0, 2, 1), 3 / 2);
        Due.due("rows over the edge", x.area(0, 0, 0, 3, 1, 2), 12 / 2);
        x.fill(0, 0, 0, -1);
        x.paint(0, 0, 0, 0);
        Due.due("cut towards 0", x.area(0, 0, 0, 0, 4, 4), 0);
        x.fill(0, 0, 0, 0);
        for (int k = 0; k < 16; k++) {
            x.paint(0, k % 4, k / 4, 1000000);
        }
        Due.due("the most of all", x.area(0, 0, 0, 0, 16, 16), 1000000);
        for (int far : FAR) {
            Due.due("texture " + far, x.area(far, 0, 0, 0, 1, 1), STRANGE);
            Due.due("level " + far, x.area(0, far, 0, 0, 1, 1), STRANGE);
        }
        Due.due("texture 3", x.area(3, 0, 0, 0, 1, 1), STRANGE);
        Due.due("level 2", x.area(0, 2, 0, 0, 1, 1), STRANGE);
    }

    private static void stale() {
        Due.sentence("Promise 42", "How many TEXELS of LEVELS above 0 are others than they would be MADE of those below, as these are "
            + "now (each by itself)");
        TexelBank x = Due.told(S + texture("p", 0, 4, 4, 3, "rows", "repeat") + texture("q", 100, 16, 16, 1, "rows", "repeat"));
        Due.due("a new one", x.stale(0), 0);
        for (int k = 16; k < 20; k++) {
            x.poke(0, 5, k, 8);
            Due.due("level 1", x.stale(0), k - 15 + 1);
        }
        x.poke(0, 5, 20, 8);
        Due.due("level 2 is as level 1 is now", x.stale(0), 4);
        Due.due("one level: none", x.stale(1), 0);
        x.poke(0, 5, 100, 8);
        Due.due("one level: none", x.stale(1), 0);
        Due.due("nothing is made", x.about(8), 6);
        x = Due.told("store s chars 400;" + texture("p", 0, 2, 1, 2, "rows", "repeat"));
        x.paint(0, 0, 0, -1);
        x.paint(0, 1, 0, -1);
        Due.due("as cut to their kind", x.stale(0), 0);
        Due.sentence("Promise 42", "NONE if there is no such TEXTURE");
        for (int far : FAR) {
            Due.due("texture " + far, x.stale(far), -1);
        }
        Due.due("texture 1", x.stale(1), -1);
    }
}
