/** Promises 17 to 25 and 40 to 42: where TEXELS lie, how they are painted, filled and MADE, what WRAPS. */
public final class TexturesTest {
    private static final int STRANGE = TexelBank.STRANGE;
    private static final String S = "store s ints 400;";

    public static void main(String[] args) {
        telling();
        levels();
        rows();
        tiles();
        curves();
        ordersAgree();
        besides();
        makes();
        cuts();
        paints();
        fills();
        stales();
        wraps();
        areas();
        Due.close();
    }

    private static String texture(String name, int first, int width, int height, int levels, String order, String wrap) {
        return "texture " + name + " on s at " + first + " size " + width + " by " + height + " levels " + levels + " " + order + " " + wrap + ";";
    }

    private static void telling() {
        TexelBank x = Due.told("thing t;" + S + texture("p", 7, 8, 4, 3, "tiles", "clamp")
            + texture("q", 0, 1, 2, 1, "curves", "mirror") + texture("r", 0, 1, 1, 1, "rows", "repeat"));
        int[] due = {1, 7, 8, 4, 3, 1, 1, 32 + 8 + 2, -1};
        for (int what = 0; what < due.length; what++) {
            Due.due("texture(0, " + what + ")", x.texture(0, what), due[what]);
        }
        Due.due("texture(0, -1)", x.texture(0, -1), -1);
        Due.due("texture(1, 5)", x.texture(1, 5), 2);
        Due.due("texture(1, 6)", x.texture(1, 6), 2);
        Due.due("texture(2, 5)", x.texture(2, 5), 0);
        Due.due("texture(2, 6)", x.texture(2, 6), 0);
        Due.due("texture(3, 0)", x.texture(3, 0), -1);
        Due.due("texture(-1, 0)", x.texture(-1, 0), -1);
    }

    private static void levels() {
        TexelBank x = Due.told(S + texture("p", 7, 8, 2, 4, "rows", "clamp"));
        int[][] due = {{8, 2, 7}, {4, 1, 23}, {2, 1, 27}, {1, 1, 29}};
        for (int level = 0; level < 4; level++) {
            for (int what = 0; what < 3; what++) {
                Due.due("level(0, " + level + ", " + what + ")", x.level(0, level, what), due[level][what]);
            }
        }
        Due.due("level(0, 4, 0)", x.level(0, 4, 0), -1);
        Due.due("level(0, -1, 0)", x.level(0, -1, 0), -1);
        Due.due("level(0, 0, 3)", x.level(0, 0, 3), -1);
        Due.due("level(0, 0, -1)", x.level(0, 0, -1), -1);
        Due.due("level(1, 0, 0)", x.level(1, 0, 0), -1);
        Due.due("texture(0, 7)", x.texture(0, 7), 23);
    }

    private static void rows() {
        TexelBank x = Due.told(S + texture("p", 7, 8, 2, 4, "rows", "clamp"));
        Due.due("place(0, 0, 0, 0)", x.place(0, 0, 0, 0), 7);
        Due.due("place(0, 0, 3, 1)", x.place(0, 0, 3, 1), 7 + 11);
        Due.due("place(0, 1, 3, 0)", x.place(0, 1, 3, 0), 26);
        Due.due("place(0, 0, 8, 0)", x.place(0, 0, 8, 0), -1);
        Due.due("place(0, 0, 0, 2)", x.place(0, 0, 0, 2), -1);
        Due.due("place(0, 0, -1, 0)", x.place(0, 0, -1, 0), -1);
        Due.due("place(0, 0, 0, -1)", x.place(0, 0, 0, -1), -1);
        Due.due("place(0, 4, 0, 0)", x.place(0, 4, 0, 0), -1);
        Due.due("place(1, 0, 0, 0)", x.place(1, 0, 0, 0), -1);
        Due.due("at(0, 0, 11)", x.at(0, 0, 11), 11);
        Due.due("at(0, 0, 16)", x.at(0, 0, 16), -1);
        Due.due("at(0, 0, -1)", x.at(0, 0, -1), -1);
        Due.due("at(0, 1, 4)", x.at(0, 1, 4), -1);
        Due.due("at(0, 4, 0)", x.at(0, 4, 0), -1);
        x.poke(0, 5, 18, 44);
        Due.due("texel(0, 0, 3, 1)", x.texel(0, 0, 3, 1), 44);
        Due.due("texel(0, 0, 8, 0)", x.texel(0, 0, 8, 0), STRANGE);
        Due.due("texel(0, 0, 0, -1)", x.texel(0, 0, 0, -1), STRANGE);
        Due.due("texel(0, 4, 0, 0)", x.texel(0, 4, 0, 0), STRANGE);
        Due.due("texel(-1, 0, 0, 0)", x.texel(-1, 0, 0, 0), STRANGE);
    }

    private static void tiles() {
        TexelBank x = Due.told(S + texture("p", 0, 8, 8, 3, "tiles", "clamp") + texture("q", 100, 16, 2, 1, "tiles", "clamp"));
        Due.due("place(0, 0, 5, 2)", x.place(0, 0, 5, 2), 16 + 9);
        Due.due("place(0, 0, 5, 6)", x.place(0, 0, 5, 6), 48 + 9);
        Due.due("place(0, 0, 3, 4)", x.place(0, 0, 3, 4), 32 + 3);
        Due.due("at(0, 0, 25)", x.at(0, 0, 25), 2 * 8 + 5);
        Due.due("at(0, 0, 57)", x.at(0, 0, 57), 6 * 8 + 5);
        Due.due("level 1 is one tile", x.place(0, 1, 1, 2), 64 + 9);
        Due.due("level 2 is as rows", x.place(0, 2, 0, 1), 64 + 16 + 2);
        Due.due("too low: as rows", x.place(1, 0, 5, 1), 100 + 21);
        Due.due("too low: as rows", x.at(1, 0, 21), 21);
        x = Due.told(S + texture("p", 0, 8, 4, 1, "tiles", "clamp"));
        Due.due("four high is high enough", x.place(0, 0, 5, 2), 16 + 9);
        Due.due("four high is high enough", x.at(0, 0, 25), 2 * 8 + 5);
    }

    private static void curves() {
        TexelBank x = Due.told(S + texture("p", 0, 8, 8, 1, "curves", "clamp") + texture("q", 100, 8, 2, 2, "curves", "clamp")
            + texture("r", 200, 2, 16, 1, "curves", "clamp"));
        // x = 101, y = 011 in bits: from the highest y2 x2 y1 x1 y0 x0 = 0 1 1 0 1 1
        Due.due("place(0, 0, 5, 3)", x.place(0, 0, 5, 3), 27);
        Due.due("at(0, 0, 27)", x.at(0, 0, 27), 3 * 8 + 5);
        // y has one bit: x2 x1 y0 x0
        Due.due("place(1, 0, 4, 1)", x.place(1, 0, 4, 1), 100 + 10);
        Due.due("place(1, 0, 3, 0)", x.place(1, 0, 3, 0), 100 + 5);
        Due.due("at(1, 0, 10)", x.at(1, 0, 10), 8 + 4);
        // a level one high: the bits of x alone
        Due.due("place(1, 1, 3, 0)", x.place(1, 1, 3, 0), 116 + 3);
        // x has one bit: y3 y2 y1 y0 x0
        Due.due("place(2, 0, 1, 10)", x.place(2, 0, 1, 10), 200 + 21);
        Due.due("at(2, 0, 21)", x.at(2, 0, 21), 10 * 2 + 1);
    }

    private static void ordersAgree() {
        String[] orders = {"rows", "tiles", "curves"};
        for (int side = 0; side < 25; side++) {
            int width = 1 << side % 5;
            int height = 1 << side / 5;
            int one = width * height;
            for (int order = 0; order < 3; order++) {
                TexelBank x = Due.told(S + texture("p", 9, width, height, 1, orders[order], "clamp"));
                boolean[] met = new boolean[one];
                for (int k = 0; k < one && side % 3 == 0; k++) {
                    int texel = x.at(0, 0, k);
                    Due.due("place of at(" + k + ")", x.place(0, 0, texel % width, texel / width), 9 + k);
                    Due.due("moved(0, 0, " + k + ", same)", x.moved(0, 0, k, order), k);
                    Due.due("moved(0, 0, " + k + ", rows)", x.moved(0, 0, k, 0), texel);
                    met[x.moved(0, 0, k, 2)] = true;
                }
                for (int k = 0; k < one && side % 3 == 0; k++) {
                    Due.dueTrue("some texel moves to " + k, met[k]);
                }
                Due.due("moved beyond", x.moved(0, 0, one, 0), -1);
            }
        }
        TexelBank x = Due.told(S + texture("p", 9, 8, 8, 2, "tiles", "clamp"));
        // 25 behind by tiles is x 5, y 2: along a curve x2 = 1, x0 = 1, y1 = 1
        Due.due("moved(0, 0, 25, 2)", x.moved(0, 0, 25, 2), 16 + 1 + 8);
        Due.due("moved(0, 0, 25, 0)", x.moved(0, 0, 25, 0), 21);
        Due.due("moved(0, 0, 64, 0)", x.moved(0, 0, 64, 0), -1);
        Due.due("moved(0, 0, -1, 0)", x.moved(0, 0, -1, 0), -1);
        Due.due("moved(0, 1, 16, 0)", x.moved(0, 1, 16, 0), -1);
        Due.due("moved(0, 2, 0, 0)", x.moved(0, 2, 0, 0), -1);
        Due.due("moved(0, 0, 0, 3)", x.moved(0, 0, 0, 3), -1);
        Due.due("moved(0, 0, 0, -1)", x.moved(0, 0, 0, -1), -1);
        Due.due("moved(1, 0, 0, 0)", x.moved(1, 0, 0, 0), -1);
    }

    private static void dueLevel(TexelBank x, int level, int[] numbers) {
        int wide = x.level(0, level, 0);
        for (int k = 0; k < numbers.length; k++) {
            Due.due("texel(0, " + level + ", " + k % wide + ", " + k / wide + ")", x.texel(0, level, k % wide, k / wide), numbers[k]);
        }
    }

    /** The PLACES beside those of a TEXTURE stay as they are. */
    private static void besides() {
        TexelBank x = Due.told(S + texture("p", 3, 4, 4, 3, "tiles", "clamp") + texture("q", 100, 4, 2, 2, "rows", "clamp"));
        for (int place = 0; place < 400; place++) {
            x.poke(0, 5, place, place + 1);
        }
        Due.due("fill", x.fill(0, 0, 0, 0), 21);
        Due.due("fill", x.fill(1, 0, 0, 0), 10);
        Due.due("make", x.make(1), 0);
        for (int place = 0; place < 400; place++) {
            boolean within = place >= 3 && place < 24 || place >= 100 && place < 110;
            Due.due("peek(0, 0, " + place + ")", x.peek(0, 0, place), within ? 0 : place + 1);
        }
    }

    private static void makes() {
        TexelBank x = Due.told(S + texture("p", 3, 4, 4, 3, "tiles", "clamp") + "fill p 1 4 0;");
        dueLevel(x, 1, new int[] {2, 4, 10, 12});
        dueLevel(x, 2, new int[] {7});
        Due.due("fill by what is there", x.fill(0, 1, 4, 0), 0);
        Due.due("fill downwards", x.fill(0, -1, -4, 0), 20);
        dueLevel(x, 1, new int[] {-2, -4, -10, -12});
        dueLevel(x, 2, new int[] {-7});
        Due.due("make without need", x.make(0), 0);
        Due.due("acts", x.about(8), 1);
        x.poke(0, 5, 3 + 16, 100);
        Due.due("make", x.make(0), 1);
        Due.due("made again", x.texel(0, 1, 0, 0), -2);
        Due.due("acts", x.about(8), 3);
        Due.due("undo of make", x.undo(), 2);
        Due.due("as it was", x.texel(0, 1, 0, 0), 100);
        Due.due("make(1)", x.make(1), -1);
        Due.due("make(-1)", x.make(-1), -1);
        // a level one wide: two lie under a texel
        x = Due.told(S + texture("p", 3, 1, 4, 3, "rows", "clamp") + "fill p 9 3 2;");
        dueLevel(x, 0, new int[] {2, 5, 8, 11});
        dueLevel(x, 1, new int[] {3, 9});
        dueLevel(x, 2, new int[] {6});
        x = Due.told(S + texture("p", 3, 4, 1, 2, "rows", "clamp") + "fill p 9 3 2;");
        dueLevel(x, 1, new int[] {6, 24});
    }

    private static void cuts() {
        String p = texture("p", 0, 2, 2, 2, "rows", "clamp") + "fill p 200 9999 40000;";
        String[] kinds = {"bytes", "chars", "shorts", "ints", "longs", "floats", "doubles"};
        for (int kind = 0; kind < kinds.length; kind++) {
            TexelBank x = Due.told("store s " + kinds[kind] + " 5;" + p.replace(" 40000", " 0"));
            Due.due("fill", x.fill(0, 200, 9999, 0), 0);
            int[] row = kind == 0 ? new int[] {0, -56, 15, -41, -20} : new int[] {0, 200, 9999, 10199, 5099};
            dueLevel(x, 0, new int[] {row[0], row[1], row[2], row[3]});
            dueLevel(x, 1, new int[] {row[4]});
            x.paint(0, 0, 0, 40000);
            int cut = kind == 0 ? 64 : kind == 2 ? -25536 : 40000;
            Due.due("painted " + kinds[kind], x.texel(0, 0, 0, 0), cut);
            Due.due("made " + kinds[kind], x.texel(0, 1, 0, 0), (cut + row[1] + row[2] + row[3]) / 4);
        }
    }

    private static void paints() {
        TexelBank x = Due.told(S + texture("p", 0, 4, 4, 3, "rows", "clamp"));
        Due.due("paint", x.paint(0, 2, 1, 16), 3);
        Due.due("texel", x.texel(0, 0, 2, 1), 16);
        Due.due("texel above", x.texel(0, 1, 1, 0), 4);
        Due.due("texel above", x.texel(0, 2, 0, 0), 1);
        Due.due("paint the same", x.paint(0, 2, 1, 16), 0);
        Due.due("acts", x.about(8), 1);
        Due.due("paint a little more", x.paint(0, 2, 1, 17), 1);
        Due.due("undo", x.undo(), 1);
        Due.due("undo", x.undo(), 0);
        Due.due("total", x.total(0), 0);
        x.poke(0, 5, 16, 9);
        Due.due("paint makes all", x.paint(0, 3, 3, 0), 1);
        Due.due("texel above", x.texel(0, 1, 0, 0), 0);
        Due.due("paint beside", x.paint(0, 4, 0, 1), -1);
        Due.due("paint beside", x.paint(0, 0, -1, 1), -1);
        Due.due("paint none", x.paint(1, 0, 0, 1), -1);
        Due.due("paint too much", x.paint(0, 0, 0, 1000001), -1);
        Due.due("paint too little", x.paint(0, 0, 0, -1000001), -1);
        Due.due("paint the most", x.paint(0, 0, 0, 1000000), 3);
        Due.due("acts", x.about(8), 3);
    }

    private static void fills() {
        TexelBank x = Due.told(S + texture("p", 0, 2, 2, 2, "rows", "clamp"));
        Due.due("fill", x.fill(0, 9999, -9999, 9999), 4);
        dueLevel(x, 0, new int[] {9999, 19998, 0, 9999});
        dueLevel(x, 1, new int[] {9999});
        Due.due("acts", x.about(8), 1);
        Due.due("fill(0, 10000, 0, 0)", x.fill(0, 10000, 0, 0), -1);
        Due.due("fill(0, 0, -10000, 0)", x.fill(0, 0, -10000, 0), -1);
        Due.due("fill(0, 0, 0, 10000)", x.fill(0, 0, 0, 10000), -1);
        Due.due("fill(1, 0, 0, 0)", x.fill(1, 0, 0, 0), -1);
        Due.due("fill(-1, 0, 0, 0)", x.fill(-1, 0, 0, 0), -1);
        Due.due("acts", x.about(8), 1);
        Due.due("undo", x.undo(), 0);
        Due.due("total", x.total(0), 0);
    }

    private static void stales() {
        TexelBank x = Due.told(S + texture("p", 0, 4, 4, 3, "rows", "clamp") + "fill p 1 4 0;");
        Due.due("stale", x.stale(0), 0);
        x.poke(0, 5, 0, 400);
        Due.due("stale", x.stale(0), 1);
        x.poke(0, 5, 20, 400);
        Due.due("stale", x.stale(0), 2);
        x.poke(0, 5, 19, 400);
        Due.due("stale", x.stale(0), 3);
        Due.due("nothing is made", x.texel(0, 1, 0, 0), 2);
        Due.due("make", x.make(0), 3);
        Due.due("stale", x.stale(0), 0);
        Due.due("stale(1)", x.stale(1), -1);
        Due.due("stale(-1)", x.stale(-1), -1);
        x = Due.told("store s bytes 400;" + texture("p", 0, 4, 4, 3, "rows", "clamp") + "fill p 77 99 9;");
        Due.due("stale", x.stale(0), 0);
    }

    private static void wraps() {
        TexelBank x = Due.told(S + texture("p", 0, 1, 1, 1, "rows", "repeat") + texture("q", 0, 1, 1, 1, "rows", "clamp")
            + texture("r", 0, 1, 1, 1, "rows", "mirror"));
        int[] coordinates = {-7, -4, -3, -2, -1, 0, 2, 3, 5, 6, 7};
        int[][] due = {{2, 2, 0, 1, 2, 0, 2, 0, 2, 0, 1}, {0, 0, 0, 0, 0, 0, 2, 2, 2, 2, 2}, {0, 2, 2, 1, 0, 0, 2, 2, 0, 0, 1}};
        for (int texture = 0; texture < 3; texture++) {
            for (int k = 0; k < coordinates.length; k++) {
                Due.due("wrap(" + texture + ", " + coordinates[k] + ", 3)", x.wrap(texture, coordinates[k], 3), due[texture][k]);
            }
            Due.due("wrap by 1", x.wrap(texture, 12345, 1), 0);
            Due.due("wrap(-100000)", x.wrap(texture, -100000, 3), -1);
            Due.due("wrap(100000)", x.wrap(texture, 100000, 3), -1);
            Due.due("wrap by 0", x.wrap(texture, 0, 0), -1);
            Due.due("wrap by 17", x.wrap(texture, 0, 17), -1);
        }
        Due.due("wrap(0, 99999, 16)", x.wrap(0, 99999, 16), 15);
        Due.due("wrap(0, -99999, 16)", x.wrap(0, -99999, 16), 1);
        Due.due("wrap(3, 0, 1)", x.wrap(3, 0, 1), -1);
        Due.due("wrap(-1, 0, 1)", x.wrap(-1, 0, 1), -1);
    }

    private static void areas() {
        TexelBank x = Due.told(S + texture("p", 0, 4, 4, 2, "tiles", "repeat") + texture("q", 0, 4, 4, 2, "rows", "clamp")
            + texture("r", 0, 4, 4, 2, "rows", "mirror") + "fill p 1 4 0;");
        Due.due("all", x.area(0, 0, 0, 0, 4, 4), 120 / 16);
        Due.due("one", x.area(0, 0, 2, 3, 1, 1), 14);
        Due.due("columns by rows", x.area(0, 0, 1, 1, 2, 1), 11 / 2);
        Due.due("columns by rows", x.area(0, 0, 1, 1, 1, 2), 14 / 2);
        Due.due("repeated", x.area(0, 0, -1, 0, 2, 1), 3 / 2);
        Due.due("clamped", x.area(1, 0, -999, 0, 16, 1), 0);
        Due.due("clamped", x.area(1, 0, 999, 999, 16, 16), 15);
        Due.due("mirrored", x.area(2, 0, 3, 0, 3, 1), (3 + 3 + 2) / 3);
        Due.due("level 1", x.area(0, 1, 0, 0, 2, 2), (2 + 4 + 10 + 12) / 4);
        x.fill(0, -1, -4, 0);
        Due.due("below 0", x.area(0, 0, 0, 0, 4, 4), -7);
        Due.due("no level", x.area(0, 2, 0, 0, 1, 1), STRANGE);
        Due.due("no texture", x.area(3, 0, 0, 0, 1, 1), STRANGE);
        Due.due("x", x.area(0, 0, 1000, 0, 1, 1), STRANGE);
        Due.due("y", x.area(0, 0, 0, -1000, 1, 1), STRANGE);
        Due.due("columns", x.area(0, 0, 0, 0, 0, 1), STRANGE);
        Due.due("columns", x.area(0, 0, 0, 0, 17, 1), STRANGE);
        Due.due("rows", x.area(0, 0, 0, 0, 1, 0), STRANGE);
        Due.due("rows", x.area(0, 0, 0, 0, 1, 17), STRANGE);
    }
}
