/** The edges that the document names of the CACHE, of WALKS, and in promises 34 to 39, 43 and 44. */
public final class CacheEdgesTest {
    private static final String TERMS = Document.TERMS;
    private static final String S = "store s ints 400;";
    private static final int[] FAR = {-1, -2, Integer.MIN_VALUE, Integer.MAX_VALUE};
    private static final String[] ORDERS = {"rows", "tiles", "curves"};

    public static void main(String[] args) {
        emptyAtFirst();
        lines();
        sets();
        ways();
        leastLately();
        fromAnEmptyCache();
        walkThroughAll();
        walkOrders();
        noFetch();
        flushing();
        noWalk();
        bestWalks();
        noWalkAs();
        bestOrders();
        leaving();
        notFull();
        hottest();
        Due.close();
    }

    private static String texture(int first, int width, int height, int levels, String order) {
        return "texture p on s at " + first + " size " + width + " by " + height + " levels " + levels + " " + order + " repeat;";
    }

    /** PLACES 0 .. 255 are the TEXELS of the one TEXTURE, row by row. */
    private static TexelBank rows(String cache) {
        return Due.told("cache " + cache + ";" + S + texture(0, 16, 16, 1, "rows"));
    }

    private static int fetch(TexelBank x, int place) {
        return x.fetch(0, 0, place % 16, place / 16);
    }

    private static void emptyAtFirst() {
        Due.sentence(TERMS, "The CACHE, empty at first");
        TexelBank x = rows("8 by 4 of 16");
        Due.due("lines held", x.about(7), 0);
        Due.due("flush", x.flush(), 0);
        for (int set = 0; set < 8; set++) {
            Due.due("leaves(" + set + ")", x.leaves(set), -1);
        }
        Due.due("the first fetch", fetch(x, 0), 0);
        Due.due("a line of number 0 is one", x.about(7), 1);
    }

    private static void lines() {
        Due.sentence(TERMS, "a PLACE p of STORE s is of LINE (400 s + p) / (places a LINE)");
        for (int span = 1; span <= 16; span *= 2) {
            String cache = "cache 1 by 1 of " + span + ";";
            for (int store = 0; store < 6; store++) {
                String others = "thing a;none b;thing c;none d;thing e;";
                TexelBank x = Due.told(cache + others.substring(0, new int[] {0, 8, 15, 23, 30, 38}[store]) + S
                    + texture(59, 16, 16, 5, "rows"));
                int[][] texels = {{0, 0, 0, 59}, {0, 15, 15, 314}, {1, 0, 0, 315}, {4, 0, 0, 399}};
                for (int[] texel : texels) {
                    x.flush();
                    Due.due("fetch", x.fetch(0, texel[0], texel[1], texel[2]), 0);
                    Due.due("line of place " + texel[3] + " of store " + store + " by " + span, x.hottest(0, 0), (400 * store + texel[3]) / span);
                    Due.due("it is the one that would go", x.leaves(0), (400 * store + texel[3]) / span);
                }
            }
            TexelBank x = rows("1 by 1 of " + span);
            for (int place = 0; place < 40; place++) {
                Due.due("fetch of " + place + " by " + span, fetch(x, place), place % span == 0 ? 0 : 1);
            }
        }
    }

    private static void sets() {
        Due.sentence(TERMS, "LINE n of SET n modulo SETS");
        for (int sets = 1; sets <= 8; sets *= 2) {
            TexelBank x = rows(sets + " by 1 of 1");
            for (int place = 0; place < 2 * sets; place++) {
                Due.due("fetch of " + place, fetch(x, place), 0);
                Due.due("its set", x.leaves(place % sets), place);
                Due.due("the next set", x.leaves((place + 1) % sets), sets == 1 ? place : place + 1 < sets ? -1 : place + 1 - sets);
            }
        }
    }

    private static void ways() {
        Due.sentence(TERMS, "which holds WAYS LINES at most");
        for (int ways = 1; ways <= 4; ways++) {
            for (int sets = 1; sets <= 8; sets *= 2) {
                TexelBank x = rows(sets + " by " + ways + " of 1");
                for (int k = 0; k < ways; k++) {
                    fetch(x, k * sets);
                    Due.due("held", x.about(7), k + 1);
                    Due.due("goes next", x.leaves(0), k + 1 < ways ? -1 : 0);
                }
                for (int k = 0; k < ways; k++) {
                    Due.due("all are held", fetch(x, k * sets), 1);
                }
                Due.due("one more", fetch(x, ways * sets), 0);
                Due.due("as many are held", x.about(7), ways);
                Due.due("the first has gone", fetch(x, 0), 0);
                Due.due("then the second", ways == 1 ? 0 : fetch(x, sets), 0);
            }
        }
        TexelBank x = rows("8 by 4 of 1");
        for (int place = 0; place < 64; place++) {
            fetch(x, place);
            Due.due("held", x.about(7), Math.min(32, place + 1));
        }
        Due.due("flush of a full one", x.flush(), 32);
    }

    private static void leastLately() {
        Due.sentence(TERMS, "a HIT if its LINE is held, else a MISS: it is held then, in place of the one of its SET that was FETCHED "
            + "least lately, "
            + "if there are too many");
        TexelBank x = rows("1 by 3 of 1");
        int[][] due = {
            // place, whether it is a HIT, which LINE goes next
            {5, 0, -1}, {6, 0, -1}, {7, 0, 5}, {5, 1, 6}, {7, 1, 6}, {6, 1, 5}, {8, 0, 7}, {5, 0, 6}, {7, 0, 8}, {8, 1, 5}, {8, 1, 5}, {5, 1, 7},
            {9, 0, 8}, {7, 0, 5}, {0, 0, 9}, {0, 1, 9}, {9, 1, 7},
        };
        for (int k = 0; k < due.length; k++) {
            Due.due("fetch " + k + " of " + due[k][0], fetch(x, due[k][0]), due[k][1]);
            Due.due("goes next then", x.leaves(0), due[k][2]);
        }
        Due.due("hits", x.about(5), 8);
        Due.due("misses", x.about(6), 9);
    }

    private static void fromAnEmptyCache() {
        Due.sentence(TERMS, "A WALK goes once through all TEXELS of a LEVEL from an empty CACHE");
        TexelBank x = rows("8 by 4 of 16");
        for (int place = 0; place < 256; place += 16) {
            fetch(x, place);
        }
        for (int how = 0; how < 4; how++) {
            Due.due("walk " + how, x.walk(0, 0, how), 16);
            Due.due("walk " + how + " again", x.walk(0, 0, how), 16);
        }
        Due.due("the cache in use is as it was", x.about(7), 16);
        Due.due("misses", x.about(6), 16);
        Due.due("hits", x.about(5), 0);
        Due.due("hottest", x.hottest(0, 1), 1);
        Due.due("fetch", fetch(x, 255), 1);
    }

    private static void walkThroughAll() {
        Due.sentence(TERMS, "goes once through all TEXELS of a LEVEL");
        for (int side = 1; side <= 16; side *= 2) {
            for (int other = 1; other <= 16; other *= 2) {
                TexelBank x = Due.told("cache 1 by 1 of 1;" + S + texture(3, side, other, 1, ORDERS[side % 3]));
                for (int how = 0; how < 4; how++) {
                    Due.due("each is missed, " + side + " by " + other, x.walk(0, 0, how), side * other);
                }
            }
        }
        TexelBank x = Due.told("cache 8 by 4 of 16;" + S + texture(59, 16, 16, 5, "curves"));
        int[] first = {59, 315, 379, 395, 399};
        for (int level = 0; level < 5; level++) {
            int last = first[level] + (256 >> 2 * level) - 1;
            for (int how = 0; how < 4; how++) {
                Due.due("each line once, level " + level, x.walk(0, level, how), last / 16 - first[level] / 16 + 1);
            }
        }
    }

    private static void walkOrders() {
        Due.sentence(TERMS, "0 row by row, 1 column by column, 2 by PLACES, 3 in 4 by 4 tiles, row by row (within each, too)");
        // one LINE of 4 PLACES is held: what is missed tells how often another LINE is met
        TexelBank x = Due.told("cache 1 by 1 of 4;" + S + texture(0, 8, 8, 4, "rows"));
        int[][] due = {{16, 64, 16, 16}, {4, 16, 4, 4}, {1, 1, 1, 1}, {1, 1, 1, 1}};
        for (int level = 0; level < 4; level++) {
            for (int how = 0; how < 4; how++) {
                Due.due("walk(0, " + level + ", " + how + ")", x.walk(0, level, how), due[level][how]);
            }
        }
        // LINES of 8: a row has one, a tile meets four, each tile of a row the same ones
        x = Due.told("cache 4 by 1 of 8;" + S + texture(0, 8, 8, 4, "rows"));
        Due.due("row by row", x.walk(0, 0, 0), 8);
        Due.due("column by column", x.walk(0, 0, 1), 64);
        Due.due("in tiles, row by row", x.walk(0, 0, 3), 8);
        x = Due.told("cache 2 by 1 of 8;" + S + texture(0, 8, 8, 4, "rows"));
        Due.due("in tiles, with too few sets", x.walk(0, 0, 3), 16);
        // too narrow or low for a tile: those TEXELS that there are
        x = Due.told("cache 1 by 1 of 2;" + S + texture(0, 2, 16, 1, "rows"));
        Due.due("narrow", x.walk(0, 0, 3), 16);
        x = Due.told("cache 1 by 1 of 2;" + S + texture(0, 16, 2, 1, "rows"));
        Due.due("low", x.walk(0, 0, 3), 16);
        x = Due.told("cache 1 by 1 of 16;" + S + texture(0, 16, 2, 1, "rows"));
        Due.due("low: each tile meets both rows", x.walk(0, 0, 3), 8);
        Due.due("low: row by row", x.walk(0, 0, 0), 2);
    }

    private static void noFetch() {
        Due.sentence("Promise 34", "FETCH of a TEXEL: 1 a HIT, 0 a MISS; NONE if there is none such.");
        TexelBank x = Due.told("cache 1 by 1 of 1;" + S + texture(399, 1, 1, 1, "rows"));
        Due.due("a miss", x.fetch(0, 0, 0, 0), 0);
        Due.due("a hit", x.fetch(0, 0, 0, 0), 1);
        for (int far : FAR) {
            Due.due("texture " + far, x.fetch(far, 0, 0, 0), -1);
            Due.due("level " + far, x.fetch(0, far, 0, 0), -1);
            Due.due("x " + far, x.fetch(0, 0, far, 0), -1);
            Due.due("y " + far, x.fetch(0, 0, 0, far), -1);
        }
        Due.due("texture 1", x.fetch(1, 0, 0, 0), -1);
        Due.due("level 1", x.fetch(0, 1, 0, 0), -1);
        Due.due("x 1", x.fetch(0, 0, 1, 0), -1);
        Due.due("y 1", x.fetch(0, 0, 0, 1), -1);
        Due.due("hits", x.about(5), 1);
        Due.due("misses", x.about(6), 1);
        Due.due("how often", x.hottest(0, 1), 2);
        Due.due("no other line", x.hottest(1, 0), -1);
    }

    private static void flushing() {
        Due.sentence("Promise 35", "The CACHE is empty; how many LINES it held. (HITS, MISSES, how often LINES were FETCHED are 0.)");
        TexelBank x = rows("2 by 2 of 1");
        Due.due("an empty one", x.flush(), 0);
        for (int held = 1; held <= 6; held++) {
            for (int place = 0; place < held; place++) {
                Due.due("a miss", fetch(x, place), 0);
                Due.due("a hit", fetch(x, place), 1);
            }
            Due.due("hits", x.about(5), held);
            Due.due("misses", x.about(6), held);
            Due.due("flush", x.flush(), Math.min(4, held));
            Due.due("lines held", x.about(7), 0);
            Due.due("hits", x.about(5), 0);
            Due.due("misses", x.about(6), 0);
            Due.due("hottest", x.hottest(0, 0), -1);
            Due.due("hottest", x.hottest(0, 1), -1);
            Due.due("leaves(0)", x.leaves(0), -1);
            Due.due("leaves(1)", x.leaves(1), -1);
            Due.due("flush again", x.flush(), 0);
        }
    }

    private static void noWalk() {
        Due.sentence("Promise 36", "MISSES of a WALK (0 .. 3); NONE if one can't be.");
        TexelBank x = Due.told(S + texture(0, 4, 4, 2, "rows"));
        for (int how : new int[] {-1, 4, 5, Integer.MIN_VALUE, Integer.MAX_VALUE}) {
            Due.due("how " + how, x.walk(0, 0, how), -1);
        }
        for (int far : FAR) {
            Due.due("texture " + far, x.walk(far, 0, 0), -1);
            Due.due("level " + far, x.walk(0, far, 0), -1);
        }
        Due.due("texture 1", x.walk(1, 0, 0), -1);
        Due.due("level 2", x.walk(0, 2, 0), -1);
        Due.due("the last level", x.walk(0, 1, 3), 1);
    }

    private static void bestWalks() {
        Due.sentence("Promise 37", "The WALK with the fewest MISSES (of like ones the first); NONE if there is no such LEVEL.");
        TexelBank x = rows("1 by 1 of 16");
        Due.due("rows, places: the first", x.bestWalk(0, 0), 0);
        x = Due.told("cache 1 by 1 of 16;" + S + texture(0, 16, 16, 5, "tiles"));
        Due.due("places, tiles: the first", x.bestWalk(0, 0), 2);
        Due.due("all alike: the first", x.bestWalk(0, 4), 0);
        x = Due.told("cache 1 by 1 of 4;" + S + texture(0, 2, 16, 1, "curves"));
        Due.due("along a curve", x.bestWalk(0, 0), 0);
        x = Due.told("cache 1 by 1 of 4;" + S + texture(0, 16, 2, 1, "curves"));
        Due.due("column by column", x.bestWalk(0, 0), 1);
        for (int far : FAR) {
            Due.due("texture " + far, x.bestWalk(far, 0), -1);
            Due.due("level " + far, x.bestWalk(0, far), -1);
        }
        Due.due("texture 1", x.bestWalk(1, 0), -1);
        Due.due("level 1", x.bestWalk(0, 1), -1);
    }

    private static void noWalkAs() {
        Due.sentence("Promise 38", "MISSES of a WALK, were the TEXTURE of an order (0 .. 2); NONE if one can't be.");
        for (String order : ORDERS) {
            TexelBank x = Due.told("cache 1 by 1 of 16;" + S + texture(0, 16, 8, 2, order));
            int[][] due = {{8, 32, 32}, {128, 32, 32}, {8, 8, 8}, {32, 8, 8}};
            for (int how = 0; how < 4; how++) {
                for (int as = 0; as < 3; as++) {
                    Due.due("walkAs(0, 0, " + how + ", " + as + ")", x.walkAs(0, 0, how, as), due[how][as]);
                }
            }
            Due.due("the order stays", x.texture(0, 5), order.equals("rows") ? 0 : order.equals("tiles") ? 1 : 2);
            for (int as : new int[] {-1, 3, 4, Integer.MIN_VALUE, Integer.MAX_VALUE}) {
                Due.due("order " + as, x.walkAs(0, 0, 0, as), -1);
            }
            for (int how : new int[] {-1, 4, 5, Integer.MIN_VALUE, Integer.MAX_VALUE}) {
                Due.due("how " + how, x.walkAs(0, 0, how, 0), -1);
            }
            for (int far : FAR) {
                Due.due("texture " + far, x.walkAs(far, 0, 0, 0), -1);
                Due.due("level " + far, x.walkAs(0, far, 0, 0), -1);
            }
            Due.due("texture 1", x.walkAs(1, 0, 0, 0), -1);
            Due.due("level 2", x.walkAs(0, 2, 0, 0), -1);
        }
    }

    private static void bestOrders() {
        Due.sentence("Promise 39", "The order by which a WALK has the fewest MISSES (of like ones the first); NONE if one can't be.");
        TexelBank x = Due.told("cache 1 by 1 of 16;" + S + texture(0, 16, 8, 5, "curves"));
        int[] due = {0, 1, 0, 1};
        for (int how = 0; how < 4; how++) {
            Due.due("bestOrder(0, 0, " + how + ")", x.bestOrder(0, 0, how), due[how]);
            Due.due("all alike: the first", x.bestOrder(0, 4, how), 0);
        }
        // 8 by 2: no tiles, so as by rows; column by column a curve is better
        x = Due.told("cache 1 by 1 of 4;" + S + texture(0, 8, 2, 1, "rows"));
        Due.due("a curve", x.bestOrder(0, 0, 1), 2);
        for (int how : new int[] {-1, 4, 5, Integer.MIN_VALUE, Integer.MAX_VALUE}) {
            Due.due("how " + how, x.bestOrder(0, 0, how), -1);
        }
        for (int far : FAR) {
            Due.due("texture " + far, x.bestOrder(far, 0, 0), -1);
            Due.due("level " + far, x.bestOrder(0, far, 0), -1);
        }
        Due.due("texture 1", x.bestOrder(1, 0, 0), -1);
        Due.due("level 1", x.bestOrder(0, 1, 0), -1);
    }

    private static void leaving() {
        Due.sentence("Promise 43", "NONE if there is no such SET, too");
        for (int sets = 1; sets <= 8; sets *= 2) {
            TexelBank x = rows(sets + " by 1 of 1");
            for (int place = 0; place < 16; place++) {
                fetch(x, place);
            }
            for (int set = 0; set < 9; set++) {
                Due.due("leaves(" + set + ") of " + sets, x.leaves(set), set < sets ? 16 - sets + set : -1);
            }
            for (int far : FAR) {
                Due.due("leaves(" + far + ")", x.leaves(far), -1);
            }
        }
    }

    private static void notFull() {
        Due.sentence("Promise 43", "(NONE: none would, it is not full)");
        TexelBank x = rows("2 by 3 of 1");
        fetch(x, 0);
        fetch(x, 2);
        fetch(x, 2);
        fetch(x, 1);
        Due.due("two of three", x.leaves(0), -1);
        fetch(x, 4);
        Due.due("full", x.leaves(0), 0);
        Due.due("the other set", x.leaves(1), -1);
        fetch(x, 0);
        Due.due("the next one", x.leaves(0), 2);
        x.leaves(0);
        Due.due("asking holds nothing", x.about(7), 4);
        Due.due("the next one", x.leaves(0), 2);
    }

    private static void hottest() {
        Due.sentence("Promise 44", "by how often it was FETCHED, the most first, of like ones the least (what 0), how often (1); NONE "
            + "if there is none such, or for another what");
        TexelBank x = rows("1 by 1 of 1");
        Due.due("none was", x.hottest(0, 0), -1);
        Due.due("none was", x.hottest(0, 1), -1);
        int[] places = {9, 200, 9, 3, 200, 7, 255, 9, 0, 200, 3};
        for (int place : places) {
            fetch(x, place);
        }
        int[][] due = {{9, 3}, {200, 3}, {3, 2}, {0, 1}, {7, 1}, {255, 1}};
        for (int k = 0; k < due.length; k++) {
            Due.due("hottest(" + k + ", 0)", x.hottest(k, 0), due[k][0]);
            Due.due("hottest(" + k + ", 1)", x.hottest(k, 1), due[k][1]);
        }
        Due.due("a seventh", x.hottest(6, 0), -1);
        Due.due("a seventh", x.hottest(6, 1), -1);
        for (int far : FAR) {
            Due.due("hottest(" + far + ", 0)", x.hottest(far, 0), -1);
            Due.due("hottest(" + far + ", 1)", x.hottest(far, 1), -1);
            Due.due("hottest(0, " + far + ")", x.hottest(0, far), -1);
        }
        Due.due("hottest(0, 2)", x.hottest(0, 2), -1);
        Due.due("hottest(2400, 0)", x.hottest(2400, 0), -1);
        x = rows("1 by 1 of 1");
        for (int place = 255; place >= 0; place--) {
            fetch(x, place);
        }
        for (int k = 0; k <= 240; k += 15) {
            Due.due("of like ones the least", x.hottest(k, 0), k);
        }
        Due.due("the last of all", x.hottest(255, 0), 255);
        Due.due("one more", x.hottest(256, 0), -1);
    }
}
