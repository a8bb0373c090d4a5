/** Promises 26 to 30: samples of one TEXEL, of four, between two LEVELS, along the long AXIS of a FOOTPRINT. */
public final class SamplesTest {
    private static final int STRANGE = TexelBank.STRANGE;

    public static void main(String[] args) {
        nearest();
        smooth();
        blend();
        axes();
        filtered();
        Due.close();
    }

    // LEVEL 0 is 0, 16 .. 240 row by row, LEVEL 1 is 40 72 168 200, LEVEL 2 is 120
    private static TexelBank sixteens(String wrap) {
        return Due.told("store s ints 21;texture p on s at 0 size 4 by 4 levels 3 rows " + wrap + ";fill p 16 64 0;");
    }

    private static void nearest() {
        TexelBank x = sixteens("repeat");
        Due.due("nearest(0, 0, 0, 0)", x.nearest(0, 0, 0, 0), 0);
        Due.due("nearest(0, 0, 15, 16)", x.nearest(0, 0, 15, 16), 64);
        Due.due("nearest(0, 0, 63, 63)", x.nearest(0, 0, 63, 63), 240);
        Due.due("nearest(0, 0, 64, 0)", x.nearest(0, 0, 64, 0), 0);
        Due.due("nearest(0, 0, -1, 0)", x.nearest(0, 0, -1, 0), 48);
        Due.due("nearest(0, 0, -16, -17)", x.nearest(0, 0, -16, -17), 48 + 128);
        Due.due("nearest(0, 1, 31, 32)", x.nearest(0, 1, 31, 32), 168);
        Due.due("nearest(0, 1, -1, 0)", x.nearest(0, 1, -1, 0), 72);
        Due.due("nearest(0, 2, 9999, -9999)", x.nearest(0, 2, 9999, -9999), 120);
        Due.due("clamped", sixteens("clamp").nearest(0, 0, -100, 100), 192);
        Due.due("clamped on level 1", sixteens("clamp").nearest(0, 1, -1, 40), 160 + 8);
        Due.due("clamped on level 1", sixteens("clamp").nearest(0, 1, 40, -1), 72);
        Due.due("clamped on level 2", sixteens("clamp").nearest(0, 2, -1, -1), 120);
        Due.due("mirrored", sixteens("mirror").nearest(0, 0, -17, 64), 16 + 192);
        Due.due("nearest, no u", x.nearest(0, 0, 10000, 0), STRANGE);
        Due.due("nearest, no v", x.nearest(0, 0, 0, -10000), STRANGE);
        Due.due("nearest, no level", x.nearest(0, 3, 0, 0), STRANGE);
        Due.due("nearest, no level", x.nearest(0, -1, 0, 0), STRANGE);
        Due.due("nearest, no texture", x.nearest(1, 0, 0, 0), STRANGE);
    }

    private static void smooth() {
        TexelBank x = sixteens("repeat");
        Due.due("the middle of a texel", x.smooth(0, 0, 24, 40), 16 + 128);
        Due.due("one 16th to the right", x.smooth(0, 0, 25, 40), 16 + 128 + 1);
        Due.due("one 16th down", x.smooth(0, 0, 24, 41), 16 + 128 + 4);
        Due.due("between four", x.smooth(0, 0, 16, 16), (0 + 16 + 64 + 80) / 4);
        Due.due("over the left edge", x.smooth(0, 0, 0, 8), 24);
        Due.due("over the corner", x.smooth(0, 0, 0, 0), (240 + 192 + 48 + 0) / 4);
        Due.due("over the left edge, clamped", sixteens("clamp").smooth(0, 0, 0, 8), 0);
        Due.due("over the right edge, mirrored", sixteens("mirror").smooth(0, 0, 72, 8), 48);
        Due.due("over the corner, clamped", sixteens("clamp").smooth(0, 0, -100, -100), 0);
        Due.due("over the left edge of level 1, clamped", sixteens("clamp").smooth(0, 1, -10, 48), 168);
        Due.due("over the upper edge of level 1, clamped", sixteens("clamp").smooth(0, 1, 48, -10), 72);
        Due.due("over the right edge, mirrored", sixteens("mirror").smooth(0, 0, 80, 8), 40);
        Due.due("level 1", x.smooth(0, 1, 16, 16), 40);
        Due.due("level 1, between two", x.smooth(0, 1, 32, 16), 56);
        Due.due("level 1, halved and rounded down", x.smooth(0, 1, 17, 19), 40 + 8);
        Due.due("level 1, below 0", x.smooth(0, 1, -1, 16), 56 + 2);
        Due.due("level 2", x.smooth(0, 2, -9999, 9999), 120);
        x.fill(0, -16, -64, -1);
        Due.due("cut towards 0", x.smooth(0, 0, 24, 24), -81);
        Due.due("cut towards 0", x.smooth(0, 0, 25, 24), -82);
        x.fill(0, -1, 0, 0);
        Due.due("cut towards 0", x.smooth(0, 0, 23, 24), 0);
        Due.due("cut towards 0", x.smooth(0, 0, 25, 24), -1);
        Due.due("smooth, no u", x.smooth(0, 0, -10000, 0), STRANGE);
        Due.due("smooth, no v", x.smooth(0, 0, 0, 10000), STRANGE);
        Due.due("smooth, no level", x.smooth(0, 3, 0, 0), STRANGE);
        Due.due("smooth, no texture", x.smooth(-1, 0, 0, 0), STRANGE);
        x.poke(0, 5, 0, 1000000);
        Due.due("the most", x.smooth(0, 0, 8, 8), 1000000);
    }

    private static void blend() {
        TexelBank x = sixteens("repeat");
        // at 0, 8: LEVEL 0 has 48 and 0, LEVEL 1 a fourth of 200 and 168, the rest of 72 and 40, LEVEL 2 120
        Due.due("depth 0", x.blend(0, 0, 8, 0), 24);
        Due.due("depth 8", x.blend(0, 0, 8, 8), 56);
        Due.due("depth 15", x.blend(0, 0, 8, 15), 84);
        Due.due("depth 16", x.blend(0, 0, 8, 16), 88);
        Due.due("depth 20", x.blend(0, 0, 8, 20), 96);
        Due.due("depth 31", x.blend(0, 0, 8, 31), 118);
        Due.due("depth 32", x.blend(0, 0, 8, 32), 120);
        Due.due("depth 40", x.blend(0, 0, 8, 40), 120);
        Due.due("depth 160", x.blend(0, 0, 8, 160), 120);
        Due.due("depth 161", x.blend(0, 24, 24, 161), STRANGE);
        Due.due("depth -1", x.blend(0, 24, 24, -1), STRANGE);
        TexelBank flat = Due.told("store s ints 21;texture p on s at 0 size 4 by 4 levels 1 rows repeat;fill p 16 64 0;");
        Due.due("one level alone", flat.blend(0, 24, 24, 0), 80);
        Due.due("one level alone", flat.blend(0, 24, 24, 100), 80);
        Due.due("one level alone", flat.filtered(0, 24, 24, 0, 99, 99, 0), 80);
        Due.due("blend, no u", x.blend(0, 10000, 24, 0), STRANGE);
        Due.due("blend, no v", x.blend(0, 24, -10000, 0), STRANGE);
        Due.due("blend, no texture", x.blend(1, 24, 24, 0), STRANGE);
        x.fill(0, 0, 0, -1);
        x.poke(0, 5, 20, 0);
        Due.due("cut towards 0", x.blend(0, 24, 24, 17), 0);
    }

    private static void dueAxis(int u, int v, int otherU, int otherV, int[] due) {
        TexelBank x = new TexelBank();
        for (int what = 0; what < due.length; what++) {
            Due.due("axis(" + u + ", " + v + ", " + otherU + ", " + otherV + ", " + what + ")", x.axis(u, v, otherU, otherV, what), due[what]);
        }
    }

    private static void axes() {
        dueAxis(0, 0, 0, 0, new int[] {1, 0, 0, 0, -1});
        dueAxis(16, 0, 0, 16, new int[] {1, 16, 0, 0});
        dueAxis(17, 0, 0, 17, new int[] {1, 17, 0, 1});
        dueAxis(-20, 13, 11, 0, new int[] {3, 33, 0, 0});
        dueAxis(11, 0, -20, -14, new int[] {4, 34, 1, 0});
        dueAxis(33, 0, 11, 0, new int[] {3, 33, 0, 0});
        dueAxis(5, 0, 0, 0, new int[] {8, 5, 0, 0});
        dueAxis(0, 0, 0, -129, new int[] {8, 129, 1, 1});
        dueAxis(999, 999, 1, 0, new int[] {8, 1998, 0, 4});
        dueAxis(999, 999, -999, 999, new int[] {1, 1998, 0, 7});
        dueAxis(33, 0, 0, 33, new int[] {1, 33, 0, 2});
        dueAxis(100, 0, 50, 0, new int[] {2, 100, 0, 2});
        dueAxis(100, 0, 14, 0, new int[] {8, 100, 0, 0});
        TexelBank x = new TexelBank();
        Due.due("axis, no what", x.axis(1, 1, 1, 1, -1), -1);
        Due.due("axis, no u", x.axis(1000, 1, 1, 1, 0), -1);
        Due.due("axis, no v", x.axis(1, -1000, 1, 1, 0), -1);
        Due.due("axis, no other u", x.axis(1, 1, 1000, 1, 0), -1);
        Due.due("axis, no other v", x.axis(1, 1, 1, -1000, 0), -1);
        Due.due("axis, no u at all", x.axis(Integer.MIN_VALUE, 1, 1, 1, 0), -1);
    }

    private static void filtered() {
        TexelBank x = sixteens("repeat");
        Due.due("no axes: smooth", x.filtered(0, 24, 40, 0, 0, 0, 0), 144);
        Due.due("one tap", x.filtered(0, 24, 40, 16, 0, 0, 16), 144);
        // two taps, 8 to the left and 8 to the right
        Due.due("two taps", x.filtered(0, 32, 8, 32, 0, 0, 16), (16 + 32) / 2);
        Due.due("two taps", x.filtered(0, 32, 8, 0, 16, 32, 0), (16 + 32) / 2);
        Due.due("two taps downwards", x.filtered(0, 8, 32, 0, 32, 0, 16), (64 + 128) / 2);
        // four taps of 48: 18, 6, 6, 18 aside, so at 14, 26, 38, 50 less 8
        Due.due("four taps", x.filtered(0, 32, 8, 48, 0, 0, 12), (6 + 18 + 30 + 42) / 4);
        // three taps of 7: 7 * 2 / 6 cut is 2 aside
        Due.due("three taps, cut", x.filtered(0, 32, 8, 7, 0, 3, 0), (22 + 24 + 26) / 3);
        Due.due("three taps, cut below 0", x.filtered(0, 32, 8, -7, 0, 3, 0), 24);
        // clamped at the left and upper edge: 18 and 6 aside are of texel 0 there
        x = sixteens("clamp");
        Due.due("four taps, clamped", x.filtered(0, 8, 8, 48, 0, 0, 12), (0 + 0 + 6 + 18) / 4);
        Due.due("four taps, clamped", x.filtered(0, 8, 8, -48, 0, 0, 12), (0 + 0 + 6 + 18) / 4);
        Due.due("four taps downwards, clamped", x.filtered(0, 8, 8, 0, 48, 0, 12), (0 + 0 + 24 + 72) / 4);
        Due.due("four taps of the other axis, clamped", x.filtered(0, 8, 8, 0, 12, 48, 0), (0 + 0 + 6 + 18) / 4);
        Due.due("four taps of the other axis, clamped", x.filtered(0, 8, 8, 12, 0, 0, 48), (0 + 0 + 24 + 72) / 4);
        x = sixteens("repeat");
        // 64 long: LEVEL 2; 32 long: LEVEL 1
        Due.due("level 1", x.filtered(0, 32, 16, 32, 0, 0, 32), 56);
        Due.due("level 2", x.filtered(0, 32, 16, 64, 0, 0, 64), 120);
        Due.due("beyond the last level", x.filtered(0, 32, 16, 999, 0, 0, 999), 120);
        Due.due("no u", x.filtered(0, 10000, 0, 0, 0, 0, 0), STRANGE);
        Due.due("no v", x.filtered(0, 0, -10000, 0, 0, 0, 0), STRANGE);
        Due.due("no axis u", x.filtered(0, 0, 0, 1000, 0, 0, 0), STRANGE);
        Due.due("no axis v", x.filtered(0, 0, 0, 0, -1000, 0, 0), STRANGE);
        Due.due("no other u", x.filtered(0, 0, 0, 0, 0, 1000, 0), STRANGE);
        Due.due("no other v", x.filtered(0, 0, 0, 0, 0, 0, -1000), STRANGE);
        Due.due("no texture", x.filtered(1, 0, 0, 0, 0, 0, 0), STRANGE);
        Due.dueTrue("far out", x.filtered(0, 9999, -9999, 999, -999, 1, 0) != STRANGE);
    }
}
