/** The edges that the document names of samples, FOOTPRINTS and BLOCKS, and in promises 26 to 33. */
public final class SamplesEdgesTest {
    private static final String TERMS = Document.TERMS;
    private static final int STRANGE = TexelBank.STRANGE;
    private static final int[] FAR = {-1, -2, Integer.MIN_VALUE, Integer.MAX_VALUE};
    private static final int[] NO_UV = {10000, -10000, Integer.MIN_VALUE, Integer.MAX_VALUE};
    private static final int[] NO_PART = {1000, -1000, Integer.MIN_VALUE, Integer.MAX_VALUE};
    private static final String[] WRAPS = {"repeat", "clamp", "mirror"};

    public static void main(String[] args) {
        halvings();
        nearestOverEdges();
        smoothOverEdges();
        smoothCut();
        blends();
        longAxes();
        taps();
        levelsOfFootprints();
        filteredAlong();
        unpackedEnds();
        packedChoices();
        kept();
        noNearest();
        noSmooth();
        noBlend();
        noAxis();
        noFiltered();
        noBlocks();
        offs();
        Due.close();
    }

    // LEVEL 0 is 0, 16 .. 240 row by row, LEVEL 1 is 40 72 168 200, LEVEL 2 is 120
    private static TexelBank sixteens(String wrap) {
        return Due.told("store s ints 21;texture p on s at 0 size 4 by 4 levels 3 tiles " + wrap + ";fill p 16 64 0;");
    }

    private static TexelBank one(int number) {
        TexelBank x = Due.told("store s ints 1;texture p on s at 0 size 1 by 1 levels 1 rows repeat;");
        x.poke(0, 5, 0, number);
        return x;
    }

    private static int wrapped(int wrap, int c, int n) {
        int turn = Math.floorMod(c, 2 * n);
        return wrap == 0 ? Math.floorMod(c, n) : wrap == 1 ? Math.max(0, Math.min(n - 1, c)) : turn < n ? turn : 2 * n - 1 - turn;
    }

    private static void halvings() {
        Due.sentence(TERMS, "U, V (-9,999 .. 9,999) are 16ths of TEXELS of LEVEL 0, at LEVEL l halved l times (rounded down)");
        TexelBank x = sixteens("repeat");
        Due.due("-1 halved is -1", x.nearest(0, 1, -1, -1), 200);
        Due.due("31 halved is 15", x.nearest(0, 1, 31, 31), 40);
        Due.due("32 halved is 16", x.nearest(0, 1, 32, 31), 72);
        Due.due("-31 halved is -16", x.nearest(0, 1, -31, 0), 72);
        Due.due("-33 halved is -17", x.nearest(0, 1, -33, 0), 40);
        Due.due("the most", x.nearest(0, 0, 9999, 9999), 16 * (9999 / 16 % 4) + 64 * (9999 / 16 % 4));
        Due.due("the least", x.nearest(0, 0, -9999, -9999), 16 * 3 + 64 * 3);
        Due.due("17 halved is 8: the middle", x.smooth(0, 1, 17, 17), 40);
        Due.due("15 halved is 7: less than the middle", x.smooth(0, 1, 15, 17), 42);
        Due.due("18 halved is 9: more than the middle", x.smooth(0, 1, 18, 17), 42);
    }

    private static void nearestOverEdges() {
        Due.sentence(TERMS, "NEAREST: the TEXEL of U, V by 16 (rounded down), WRAPPED.");
        for (int wrap = 0; wrap < 3; wrap++) {
            TexelBank x = sixteens(WRAPS[wrap]);
            for (int u = -160; u <= 160; u += 5) {
                int column = wrapped(wrap, Math.floorDiv(u, 16), 4);
                Due.due("nearest(0, 0, " + u + ", 0) by " + WRAPS[wrap], x.nearest(0, 0, u, 0), 16 * column);
                Due.due("nearest(0, 0, 0, " + u + ") by " + WRAPS[wrap], x.nearest(0, 0, 0, u), 64 * column);
                Due.due("level 2 is one texel", x.nearest(0, 2, u, -u), 120);
            }
        }
    }

    private static void smoothOverEdges() {
        Due.sentence(TERMS, "SMOOTH: U, V less 8; x, y these by 16 (rounded down), f, g the rests");
        for (int wrap = 0; wrap < 3; wrap++) {
            TexelBank x = sixteens(WRAPS[wrap]);
            for (int u = -90; u <= 90; u++) {
                int left = Math.floorDiv(u - 8, 16);
                int f = Math.floorMod(u - 8, 16);
                int due = wrapped(wrap, left, 4) * (16 - f) + wrapped(wrap, left + 1, 4) * f;
                Due.due("smooth(0, 0, " + u + ", 8) by " + WRAPS[wrap], x.smooth(0, 0, u, 8), due);
                Due.due("smooth(0, 0, 8, " + u + ") by " + WRAPS[wrap], x.smooth(0, 0, 8, u), 4 * due);
            }
        }
        TexelBank x = sixteens("repeat");
        Due.due("the most", x.smooth(0, 0, 9999, 9999), x.smooth(0, 0, 9999 % 64, 9999 % 64));
        Due.due("the least", x.smooth(0, 0, -9999, -9999), x.smooth(0, 0, 64 - 9999 % 64, 64 - 9999 % 64));
    }

    private static void smoothCut() {
        Due.sentence(TERMS, "(16 - f) (16 - g), f (16 - g), (16 - f) g, f g, together, by 256 (cut)");
        int[] numbers = {1000, 100, 10, 1};
        TexelBank x = Due.told("store s ints 4;texture p on s at 0 size 2 by 2 levels 1 rows repeat;");
        for (int sign = -1; sign <= 1; sign += 2) {
            for (int k = 0; k < 4; k++) {
                x.poke(0, 5, k, sign * numbers[k]);
            }
            for (int k = 0; k < 256; k += 9) {
                int f = k % 16;
                int g = k / 16;
                int sum = 1000 * (16 - f) * (16 - g) + 100 * f * (16 - g) + 10 * (16 - f) * g + f * g;
                Due.due("smooth at " + f + ", " + g, x.smooth(0, 0, 8 + f, 8 + g), sign * (sum / 256));
            }
        }
        Due.due("the greatest", one(1000000).smooth(0, 0, 3, 5), 1000000);
        Due.due("the least", one(-1000000).smooth(0, 0, 3, 5), -1000000);
    }

    private static void blends() {
        Due.sentence(TERMS, "BLEND by a depth d (0 .. 160, 16ths of LEVELS): SMOOTH at LEVEL d / 16 times 16 less the rest, and at "
            + "the next one "
            + "times the rest, by 16 (cut); at the last LEVEL and beyond: of that alone.");
        TexelBank x = Due.told("store s ints 400;texture p on s at 0 size 16 by 16 levels 5 rows repeat;");
        // the places of LEVELS 0 .. 4 begin at 0, 256, 320, 336, 340; at 8, 8 of a LEVEL one TEXEL alone is asked
        int[] firsts = {0, 256, 320, 336, 340};
        int[] numbers = {100, -1000, 7, -5, 31};
        for (int level = 0; level < 5; level++) {
            for (int place = firsts[level]; place < (level == 4 ? 341 : firsts[level + 1]) && place < firsts[level] + 60; place++) {
                x.poke(0, 5, place, numbers[level]);
            }
        }
        for (int depth = 0; depth <= 160; depth++) {
            int level = Math.min(4, depth / 16);
            int next = Math.min(4, level + 1);
            int rest = depth % 16;
            int due = level == 4 ? numbers[4] : (numbers[level] * (16 - rest) + numbers[next] * rest) / 16;
            Due.due("blend by " + depth, x.blend(0, 24, 24, depth), due);
        }
        TexelBank flat = one(77);
        for (int depth : new int[] {0, 1, 15, 16, 17, 159, 160}) {
            Due.due("one level, by " + depth, flat.blend(0, 3, 3, depth), 77);
        }
        TexelBank wide = sixteens("clamp");
        Due.due("far out, on the last level", wide.blend(0, 9999, -9999, 32), 120);
        Due.due("far out, ahead of the last level", wide.blend(0, 9999, -9999, 31), (72 + 120 * 15) / 16);
        Due.due("u and v of the last level", wide.blend(0, 9999, -9999, 16), 72);
        Due.due("u and v of the first level", wide.blend(0, 9999, -9999, 0), 48);
        TexelBank two = Due.told("store s ints 20;texture p on s at 0 size 4 by 4 levels 2 rows clamp;fill p 16 64 0;");
        for (int depth : new int[] {16, 17, 32, 160}) {
            Due.due("the last of two levels, by " + depth, two.blend(0, 9999, -9999, depth), 72);
            Due.due("the last of two levels, by " + depth, two.blend(0, -9999, 9999, depth), 168);
        }
    }

    private static void longAxes() {
        Due.sentence(TERMS, "two AXES, each so far in U, V (-999 .. 999)");
        Due.due("the most", new TexelBank().axis(999, 999, 0, 0, 1), 1998);
        Due.due("the least", new TexelBank().axis(0, 0, -999, -999, 1), 1998);
        Due.due("beyond", new TexelBank().axis(1000, 0, 0, 0, 1), -1);
        Due.due("beyond", new TexelBank().axis(0, 0, 0, -1000, 1), -1);
        Due.sentence(TERMS, "an AXIS is as long as both its parts without signs together; the LONG one: the longer (of like ones the "
            + "first)");
        TexelBank x = new TexelBank();
        int[][] due = {{0, 0, 0, 0, 0, 0}, {3, 4, 7, 0, 7, 0}, {-3, 4, 0, -7, 7, 0}, {3, 4, 8, 0, 8, 1}, {-3, -4, -4, -4, 8, 1}, {3, 4, 6, 0, 7, 0},
            {999, 999, -999, -999, 1998, 0}, {999, 998, -999, -999, 1998, 1}, {-999, -999, 999, 998, 1998, 0}, {0, 0, 0, 1, 1, 1}, {0, 1, 0, 0, 1, 0}};
        for (int[] row : due) {
            String of = row[0] + ", " + row[1] + ", " + row[2] + ", " + row[3];
            Due.due("how long " + of, x.axis(row[0], row[1], row[2], row[3], 1), row[4]);
            Due.due("which " + of, x.axis(row[0], row[1], row[2], row[3], 2), row[5]);
        }
    }

    private static void taps() {
        Due.sentence(TERMS, "rounded up, 1 at least, 8 at most (8 if that is 0; 1 if both are)");
        TexelBank x = new TexelBank();
        int[][] due = {{0, 0, 1}, {1, 0, 8}, {999, 0, 8}, {5, 5, 1}, {6, 5, 2}, {10, 5, 2}, {11, 5, 3}, {15, 5, 3}, {35, 5, 7}, {36, 5, 8}, {40, 5, 8},
            {41, 5, 8}, {999, 1, 8}, {999, 999, 1}, {999, 998, 2}, {7, 1, 7}, {8, 1, 8}, {9, 1, 8}};
        for (int[] row : due) {
            Due.due("taps of " + row[0] + " by " + row[1], x.axis(row[0], 0, 0, -row[1], 0), row[2]);
            Due.due("taps of " + row[1] + " by " + row[0], x.axis(0, -row[1], row[0], 0, 0), row[2]);
        }
    }

    private static void levelsOfFootprints() {
        Due.sentence(TERMS, "how often how long the LONG one is by TAPS (rounded up) must be halved (rounded up) to be 16 at most; "
            + "the last one at most");
        TexelBank x = new TexelBank();
        int[][] due = {
            // both AXES as long: one TAP
            {0, 0, 0}, {16, 16, 0}, {17, 17, 1}, {32, 32, 1}, {33, 33, 2}, {64, 64, 2}, {65, 65, 3}, {128, 128, 3}, {129, 129, 4}, {999, 999, 6},
            // two TAPS: 32 by 2 is 16, 33 by 2 is 17
            {32, 16, 0}, {33, 17, 1}, {32, 31, 0}, {33, 32, 1}, {64, 32, 1}, {65, 33, 2},
            // eight TAPS: 128 by 8 is 16, 129 by 8 is 17
            {128, 0, 0}, {129, 0, 1}, {128, 1, 0}, {129, 1, 1}, {256, 0, 1}, {257, 0, 2}, {999, 0, 3},
        };
        for (int[] row : due) {
            Due.due("halved, " + row[0] + " by " + row[1], x.axis(row[0], 0, 0, row[1], 3), row[2]);
        }
        Due.due("the longest by one tap", x.axis(999, 999, 999, 999, 3), 7);
        TexelBank three = sixteens("repeat");
        Due.due("level 0 at 16", three.filtered(0, 24, 24, 16, 0, 0, 16), 80);
        Due.due("level 1 at 17", three.filtered(0, 16, 16, 17, 0, 0, 17), 40);
        Due.due("level 1 at 32", three.filtered(0, 16, 16, 32, 0, 0, 32), 40);
        Due.due("level 2 at 33", three.filtered(0, 16, 16, 33, 0, 0, 33), 120);
        Due.due("level 2 at 65, the last one", three.filtered(0, 16, 16, 65, 0, 0, 65), 120);
        Due.due("level 2 at the most", three.filtered(0, 16, 16, 999, 999, 999, 999), 120);
        Due.due("one level", one(5).filtered(0, 16, 16, 999, 999, 999, 999), 5);
    }

    private static void filteredAlong() {
        Due.sentence(TERMS, "the LONG AXIS times (2 k + 1 - TAPS) by (2 TAPS) (cut), for k from 0 to TAPS - 1, the sum by TAPS (cut)");
        TexelBank x = sixteens("clamp");
        Due.due("one tap is where it is", x.filtered(0, 24, 24, 16, 0, 16, 0), 80);
        // 2 TAPS of 15: 15 by 4, cut to 3
        Due.due("two taps", x.filtered(0, 8, 8, 15, 0, 0, 8), (0 + 3) / 2);
        Due.due("two taps of the other one", x.filtered(0, 8, 8, 0, 8, 0, 15), (0 + 12) / 2);
        Due.due("two taps, slanted", x.filtered(0, 24, 24, 15, -15, 8, 8), ((80 - 3 + 12) + (80 + 3 - 12)) / 2);
        // 8 TAPS of 100: 43, 31, 18, 6 aside
        Due.due("eight taps", x.filtered(0, 8, 8, 100, 0, 0, 0), (6 + 18 + 31 + 43) / 8);
        Due.due("eight taps backwards", x.filtered(0, 8, 8, -100, 0, 0, 0), (6 + 18 + 31 + 43) / 8);
        Due.due("eight taps, none aside", x.filtered(0, 24, 8, 1, 0, 0, 0), 16);
        // 8 TAPS of 60, 40: 26, 18, 11, 3 aside, 17, 12, 7, 2 down
        Due.due("eight taps, slanted", x.filtered(0, 8, 8, 60, 40, 0, 0), (26 + 18 + 11 + 3 + 4 * (17 + 12 + 7 + 2)) / 8);
        x.fill(0, -16, -64, 0);
        Due.due("cut towards 0", x.filtered(0, 8, 8, 15, 0, 0, 8), -1);
        TexelBank far = sixteens("repeat");
        Due.due("beyond u and v", far.filtered(0, 9999, 9999, 16, 0, 0, 1), beyond(far));
    }

    /** FILTERED at 9,999, 9,999 along 16, 0 by 8 TAPS: 7, 5, 3, 1 aside, asked 64 TEXELS nearer, which is where they repeat. */
    private static int beyond(TexelBank x) {
        int sum = 0;
        for (int aside = -7; aside <= 7; aside += 2) {
            sum += x.smooth(0, 0, 9999 - 64 + aside, 9999 - 64);
        }
        return sum / 8;
    }

    private static long block(int a, int b, long choices) {
        return a | (long) b << 16 | choices << 32;
    }

    private static void unpackedEnds() {
        Due.sentence(TERMS, "A BLOCK is 64 bits: the lowest 16 an end a, the next 16 an end b, then 2 bits for each of 16 TEXELS (y * "
            + "4 + x): "
            + "0 a, 1 b; if a is greater: 2 (2 a + b) / 3, 3 (a + 2 b) / 3; else 2 (a + b) / 2, 3 0 (all cut).");
        int[][] due = {{0, 0, 0, 0}, {1, 0, 0, 0}, {0, 1, 0, 0}, {2, 1, 1, 1}, {5, 5, 5, 0}, {5, 6, 5, 0}, {6, 5, 5, 5}, {3, 0, 2, 1},
            {65535, 65535, 65535, 0}, {65535, 65534, 65534, 65534}, {65534, 65535, 65534, 0}, {65535, 0, 43690, 21845}, {0, 65535, 32767, 0},
            {32768, 32767, 32767, 32767}, {32767, 32768, 32767, 0}};
        for (int[] row : due) {
            TexelBank x = new TexelBank();
            for (int k = 0; k < 16; k++) {
                for (int choice = 0; choice < 4; choice++) {
                    String of = "choice " + choice + " of " + row[0] + ", " + row[1];
                    Due.due(of, x.unpack(block(row[0], row[1], (long) choice << 2 * k), k % 4, k / 4), row[choice]);
                }
            }
        }
    }

    private static TexelBank painted(int... numbers) {
        TexelBank x = Due.told("store s ints 16;texture p on s at 0 size 4 by 4 levels 1 rows repeat;");
        for (int k = 0; k < 16; k++) {
            x.poke(0, 5, k, numbers[k % numbers.length]);
        }
        return x;
    }

    private static void packedChoices() {
        Due.sentence(TERMS, "a the greatest, b the least, each TEXEL the choice nearest to it (of like ones the least)");
        // ends 30 and 0: choices 30, 0, 20, 10
        int[] choices = {1, 1, 1, 1, 1, 1, 3, 3, 3, 3, 3, 3, 3, 3, 3, 2, 2, 2, 2, 2, 2, 2, 2, 2, 2, 0, 0, 0, 0, 0, 0};
        for (int v = 0; v <= 30; v++) {
            TexelBank x = painted(v, 30, 0, 0);
            Due.due("choice of " + v, x.pack(0, 0, 0, 0) >> 32 & 3, choices[v]);
            Due.due("choice of the last row", x.pack(0, 0, 0, 0) >> 56 & 3, choices[v]);
        }
        Due.due("like ends: the first choice", painted(9).pack(0, 0, 0, 0), block(9, 9, 0));
        Due.due("ends 1 and 0: choices 1, 0, 0, 0", painted(1, 0).pack(0, 0, 0, 0), block(1, 0, 0x44444444L));
        Due.due("ends 2 and 0: choices 2, 0, 1, 0", painted(2, 1, 0, 0).pack(0, 0, 0, 0), block(2, 0, 0x58585858L));
        Due.due("all 0", painted(0).pack(0, 0, 0, 0), 0);
        Due.due("all the greatest", painted(65535).pack(0, 0, 0, 0), block(65535, 65535, 0));
    }

    private static void kept() {
        Due.sentence(TERMS, "(WRAPPED, each kept within 0 .. 65,535)");
        Due.due("the most", painted(65535, 0).pack(0, 0, 0, 0), block(65535, 0, 0x44444444L));
        Due.due("beyond the most", painted(65536, 0).pack(0, 0, 0, 0), block(65535, 0, 0x44444444L));
        Due.due("below the least", painted(65535, -1).pack(0, 0, 0, 0), block(65535, 0, 0x44444444L));
        Due.due("far beyond", painted(1000000, -1000000).pack(0, 0, 0, 0), block(65535, 0, 0x44444444L));
        Due.due("all below", painted(-1000000, -1).pack(0, 0, 0, 0), 0);
        Due.due("all beyond", painted(1000000, 65536).pack(0, 0, 0, 0), block(65535, 65535, 0));
        for (int wrap = 0; wrap < 3; wrap++) {
            TexelBank x = Due.told("store s ints 8;texture p on s at 0 size 4 by 2 levels 1 rows " + WRAPS[wrap] + ";fill p 1 10 0;");
            for (int blockX = 0; blockX < 4; blockX++) {
                for (int blockY = 0; blockY < 4; blockY++) {
                    int greatest = 0;
                    for (int k = 0; k < 16; k++) {
                        greatest = Math.max(greatest, wrapped(wrap, 4 * blockX + k % 4, 4) + 10 * wrapped(wrap, 4 * blockY + k / 4, 2));
                    }
                    Due.due("end a of " + blockX + ", " + blockY + " by " + WRAPS[wrap], x.pack(0, 0, blockX, blockY) & 65535, greatest);
                }
            }
        }
    }

    private static void noNearest() {
        Due.sentence("Promise 26", "NEAREST; STRANGE if one can't be.");
        TexelBank x = sixteens("repeat");
        for (int far : NO_UV) {
            Due.due("u " + far, x.nearest(0, 0, far, 0), STRANGE);
            Due.due("v " + far, x.nearest(0, 0, 0, far), STRANGE);
        }
        for (int far : FAR) {
            Due.due("texture " + far, x.nearest(far, 0, 0, 0), STRANGE);
            Due.due("level " + far, x.nearest(0, far, 0, 0), STRANGE);
        }
        Due.due("texture 1", x.nearest(1, 0, 0, 0), STRANGE);
        Due.due("level 3", x.nearest(0, 3, 0, 0), STRANGE);
        Due.due("9,999", x.nearest(0, 2, 9999, 9999), 120);
        Due.due("-9,999", x.nearest(0, 2, -9999, -9999), 120);
    }

    private static void noSmooth() {
        Due.sentence("Promise 27", "SMOOTH; STRANGE if one can't be.");
        TexelBank x = sixteens("repeat");
        for (int far : NO_UV) {
            Due.due("u " + far, x.smooth(0, 0, far, 0), STRANGE);
            Due.due("v " + far, x.smooth(0, 0, 0, far), STRANGE);
        }
        for (int far : FAR) {
            Due.due("texture " + far, x.smooth(far, 0, 0, 0), STRANGE);
            Due.due("level " + far, x.smooth(0, far, 0, 0), STRANGE);
        }
        Due.due("texture 1", x.smooth(1, 0, 0, 0), STRANGE);
        Due.due("level 3", x.smooth(0, 3, 0, 0), STRANGE);
        Due.due("9,999", x.smooth(0, 2, 9999, 9999), 120);
        Due.due("-9,999", x.smooth(0, 2, -9999, -9999), 120);
    }

    private static void noBlend() {
        Due.sentence("Promise 28", "BLEND; STRANGE if one can't be.");
        TexelBank x = sixteens("repeat");
        for (int far : NO_UV) {
            Due.due("u " + far, x.blend(0, far, 0, 0), STRANGE);
            Due.due("v " + far, x.blend(0, 0, far, 0), STRANGE);
        }
        for (int far : FAR) {
            Due.due("texture " + far, x.blend(far, 0, 0, 0), STRANGE);
            Due.due("depth " + far, x.blend(0, 0, 0, far), STRANGE);
        }
        Due.due("texture 1", x.blend(1, 0, 0, 0), STRANGE);
        Due.due("depth 161", x.blend(0, 0, 0, 161), STRANGE);
        Due.due("depth 160", x.blend(0, 9999, -9999, 160), 120);
    }

    private static void noAxis() {
        Due.sentence("Promise 29", "3: how often is halved (without a last LEVEL); NONE if one can't be");
        TexelBank x = new TexelBank();
        for (int far : NO_PART) {
            for (int what = 0; what < 4; what++) {
                Due.due("u " + far, x.axis(far, 0, 0, 0, what), -1);
                Due.due("v " + far, x.axis(0, far, 0, 0, what), -1);
                Due.due("other u " + far, x.axis(0, 0, far, 0, what), -1);
                Due.due("other v " + far, x.axis(0, 0, 0, far, what), -1);
            }
        }
        for (int what : new int[] {-1, 4, 5, Integer.MIN_VALUE, Integer.MAX_VALUE}) {
            Due.due("what " + what, x.axis(1, 1, 1, 1, what), -1);
        }
        Due.due("the most", x.axis(999, 999, 999, 999, 3), 7);
        Due.due("the least", x.axis(-999, -999, -999, -999, 3), 7);
        Due.due("with a bank of one level", one(0).axis(-999, -999, -999, -999, 3), 7);
    }

    private static void noFiltered() {
        Due.sentence("Promise 30", "FILTERED at U, V by a FOOTPRINT; STRANGE if one can't be.");
        TexelBank x = sixteens("repeat");
        for (int far : NO_UV) {
            Due.due("u " + far, x.filtered(0, far, 0, 1, 1, 1, 1), STRANGE);
            Due.due("v " + far, x.filtered(0, 0, far, 1, 1, 1, 1), STRANGE);
        }
        for (int far : NO_PART) {
            Due.due("axis u " + far, x.filtered(0, 0, 0, far, 1, 1, 1), STRANGE);
            Due.due("axis v " + far, x.filtered(0, 0, 0, 1, far, 1, 1), STRANGE);
            Due.due("other u " + far, x.filtered(0, 0, 0, 1, 1, far, 1), STRANGE);
            Due.due("other v " + far, x.filtered(0, 0, 0, 1, 1, 1, far), STRANGE);
        }
        for (int far : FAR) {
            Due.due("texture " + far, x.filtered(far, 0, 0, 1, 1, 1, 1), STRANGE);
        }
        Due.due("texture 1", x.filtered(1, 0, 0, 1, 1, 1, 1), STRANGE);
        Due.due("the most", x.filtered(0, 9999, 9999, 999, 999, 999, 999), 120);
        Due.due("the least", x.filtered(0, -9999, -9999, -999, -999, -999, -999), 120);
    }

    private static void noBlocks() {
        TexelBank x = sixteens("repeat");
        Due.sentence("Promise 31", "A TEXEL x, y (0 .. 3) of a BLOCK; NONE if one can't be.");
        Due.due("the first", x.unpack(block(7, 5, 1), 0, 0), 5);
        Due.due("the last", x.unpack(block(7, 5, 1L << 30), 3, 3), 5);
        Due.due("all bits", x.unpack(-1L, 3, 3), 0);
        Due.due("no bits", x.unpack(0L, 3, 3), 0);
        Due.due("the sign alone", x.unpack(Long.MIN_VALUE, 3, 3), 0);
        Due.due("ends with the highest bit", x.unpack(block(65535, 32768, 1), 0, 0), 32768);
        for (int far : new int[] {-1, 4, 5, Integer.MIN_VALUE, Integer.MAX_VALUE}) {
            Due.due("x " + far, x.unpack(block(7, 5, 0), far, 0), -1);
            Due.due("y " + far, x.unpack(block(7, 5, 0), 0, far), -1);
        }
        Due.sentence("Promise 32", "PACKED; 0 if one can't be (X, Y 0 .. 3).");
        Due.due("the last block of level 0", x.pack(0, 0, 3, 3), x.pack(0, 0, 0, 0));
        Due.due("the last block of level 2", x.pack(0, 2, 3, 3), block(120, 120, 0));
        for (int far : new int[] {-1, 4, 5, Integer.MIN_VALUE, Integer.MAX_VALUE}) {
            Due.due("x " + far, x.pack(0, 0, far, 0), 0);
            Due.due("y " + far, x.pack(0, 0, 0, far), 0);
        }
        for (int far : FAR) {
            Due.due("texture " + far, x.pack(far, 0, 0, 0), 0);
            Due.due("level " + far, x.pack(0, far, 0, 0), 0);
        }
        Due.due("texture 1", x.pack(1, 0, 0, 0), 0);
        Due.due("level 3", x.pack(0, 3, 0, 0), 0);
    }

    private static void offs() {
        Due.sentence("Promise 33", "How far its TEXELS (kept within 0 .. 65,535 as there) are off by that BLOCK, without signs, "
            + "together; NONE if one can't be.");
        Due.due("not at all", painted(9).off(0, 0, 0, 0), 0);
        Due.due("above and below", painted(30, 0, 18, 12).off(0, 0, 0, 0), 4 * (2 + 2));
        Due.due("what is kept is not off", painted(1000000, -1000000).off(0, 0, 0, 0), 0);
        // choices 65,535, 0, 43,690, 21,845: the middle between two of them is 10,922 off
        Due.due("the farthest", painted(65535, 0, 10922, 54612).off(0, 0, 0, 0), 4 * (10922 + 10922));
        Due.due("one end alone, below 0", painted(-5).off(0, 0, 0, 0), 0);
        TexelBank x = Due.told("store s ints 8;texture p on s at 0 size 8 by 1 levels 1 rows clamp;");
        int[] numbers = {0, 1, 2, 3, 100, 40, 10, 0};
        for (int k = 0; k < 8; k++) {
            x.poke(0, 5, k, numbers[k]);
        }
        Due.due("the first block", x.off(0, 0, 0, 0), 0);
        // 100, 40, 10, 0 by choices 100, 0, 66, 33
        Due.due("the second block", x.off(0, 0, 1, 0), 4 * (7 + 10));
        Due.due("the first block of the second row", x.off(0, 0, 0, 1), 0);
        Due.due("the third block is the last texel", x.off(0, 0, 2, 0), 0);
        for (int far : new int[] {-1, 4, 5, Integer.MIN_VALUE, Integer.MAX_VALUE}) {
            Due.due("x " + far, x.off(0, 0, far, 0), -1);
            Due.due("y " + far, x.off(0, 0, 0, far), -1);
        }
        for (int far : FAR) {
            Due.due("texture " + far, x.off(far, 0, 0, 0), -1);
            Due.due("level " + far, x.off(0, far, 0, 0), -1);
        }
        Due.due("texture 1", x.off(1, 0, 0, 0), -1);
        Due.due("level 1", x.off(0, 1, 0, 0), -1);
    }
}
