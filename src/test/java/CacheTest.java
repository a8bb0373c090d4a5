import java.util.ArrayList;
import java.util.List;

/** Promises 34 to 39, 43 and 44: the CACHE, what WALKS miss, which LINE goes next, which was FETCHED most. */
public final class CacheTest {
    private static final String S = "store s ints 400;";
    private static final String[] ORDERS = {"rows", "tiles", "curves"};

    public static void main(String[] args) {
        fetching();
        setsAndWays();
        secondStore();
        flushing();
        leaving();
        hottest();
        walks();
        walksAgainstPlainOnes();
        strangeWalks();
        Due.close();
    }

    private static String texture(int first, int width, int height, int levels, String order) {
        return "texture p on s at " + first + " size " + width + " by " + height + " levels " + levels + " " + order + " repeat;";
    }

    private static void fetching() {
        TexelBank x = Due.told("cache 1 by 2 of 4;" + S + texture(0, 4, 4, 2, "rows"));
        Due.due("first", x.fetch(0, 0, 0, 0), 0);
        Due.due("same line", x.fetch(0, 0, 3, 0), 1);
        Due.due("another line", x.fetch(0, 0, 0, 1), 0);
        Due.due("the first one again", x.fetch(0, 0, 1, 0), 1);
        Due.due("a third line", x.fetch(0, 0, 0, 2), 0);
        Due.due("the second one had to go", x.fetch(0, 0, 0, 1), 0);
        Due.due("then the first one", x.fetch(0, 0, 0, 0), 0);
        Due.due("level 1", x.fetch(0, 1, 1, 1), 0);
        Due.due("hits", x.about(5), 2);
        Due.due("misses", x.about(6), 6);
        Due.due("lines held", x.about(7), 2);
        Due.due("no texel", x.fetch(0, 0, 4, 0), -1);
        Due.due("no texel", x.fetch(0, 0, 0, -1), -1);
        Due.due("no level", x.fetch(0, 2, 0, 0), -1);
        Due.due("no texture", x.fetch(1, 0, 0, 0), -1);
        Due.due("hits", x.about(5), 2);
        Due.due("misses", x.about(6), 6);
    }

    private static void setsAndWays() {
        TexelBank x = Due.told("cache 4 by 1 of 2;" + S + texture(0, 16, 1, 1, "rows"));
        for (int k = 0; k < 16; k++) {
            Due.due("fetch of " + k, x.fetch(0, 0, k, 0), k % 2);
        }
        // lines 4 .. 7 are held, each in a set of its own
        Due.due("line 3 went", x.fetch(0, 0, 6, 0), 0);
        Due.due("line 4 is there", x.fetch(0, 0, 8, 0), 1);
        Due.due("line 7 went", x.fetch(0, 0, 14, 0), 0);
        Due.due("lines held", x.about(7), 4);
    }

    private static void secondStore() {
        TexelBank x = Due.told("cache 2 by 1 of 16;thing t;" + S + texture(7, 4, 4, 1, "rows"));
        x.fetch(0, 0, 0, 0);
        Due.due("line of place 7 of store 1", x.hottest(0, 0), 407 / 16);
        Due.due("same line", x.fetch(0, 0, 0, 2), 1);
        Due.due("next line", x.fetch(0, 0, 1, 2), 0);
        Due.due("leaves(1)", x.leaves(1), 25);
        Due.due("leaves(0)", x.leaves(0), 26);
        x = Due.told("cache 8 by 4 of 1;thing a;thing b;none c;none d;thing e;" + S + texture(394, 4, 1, 2, "rows"));
        Due.due("the greatest line", x.fetch(0, 1, 1, 0), 0);
        Due.due("the greatest line", x.hottest(0, 0), 5 * 400 + 399);
        Due.due("the greatest line", x.hottest(0, 1), 1);
    }

    private static void flushing() {
        TexelBank x = Due.told("cache 1 by 2 of 4;" + S + texture(0, 4, 4, 2, "rows"));
        Due.due("flush of an empty one", x.flush(), 0);
        x.fetch(0, 0, 0, 0);
        Due.due("flush", x.flush(), 1);
        x.fetch(0, 0, 0, 0);
        x.fetch(0, 0, 0, 1);
        x.fetch(0, 0, 0, 2);
        Due.due("flush", x.flush(), 2);
        for (int what = 5; what <= 7; what++) {
            Due.due("about(" + what + ")", x.about(what), 0);
        }
        Due.due("hottest", x.hottest(0, 0), -1);
        Due.due("leaves", x.leaves(0), -1);
        Due.due("fetch", x.fetch(0, 0, 0, 2), 0);
    }

    private static void leaving() {
        TexelBank x = Due.told("cache 2 by 2 of 4;" + S + texture(0, 16, 16, 1, "rows"));
        Due.due("leaves(0)", x.leaves(0), -1);
        x.fetch(0, 0, 0, 0);
        Due.due("leaves(0)", x.leaves(0), -1);
        x.fetch(0, 0, 8, 0);
        Due.due("leaves(0)", x.leaves(0), 0);
        x.fetch(0, 0, 1, 0);
        Due.due("leaves(0)", x.leaves(0), 2);
        x.fetch(0, 0, 0, 1);
        Due.due("leaves(0)", x.leaves(0), 0);
        Due.due("leaves(1)", x.leaves(1), -1);
        Due.due("leaves(2)", x.leaves(2), -1);
        Due.due("leaves(-1)", x.leaves(-1), -1);
    }

    private static void hottest() {
        TexelBank x = Due.told("cache 1 by 1 of 4;" + S + texture(0, 16, 16, 1, "rows"));
        Due.due("hottest of none", x.hottest(0, 1), -1);
        int[] lines = {9, 3, 3, 60, 9, 0, 60, 9, 20};
        for (int line : lines) {
            x.fetch(0, 0, line % 4 * 4 + line % 3, line / 4);
        }
        int[][] due = {{9, 3}, {3, 2}, {60, 2}, {0, 1}, {20, 1}, {-1, -1}};
        for (int k = 0; k < due.length; k++) {
            Due.due("hottest(" + k + ", 0)", x.hottest(k, 0), due[k][0]);
            Due.due("hottest(" + k + ", 1)", x.hottest(k, 1), due[k][1]);
        }
        Due.due("hottest(-1, 0)", x.hottest(-1, 0), -1);
        Due.due("hottest(most, 0)", x.hottest(Integer.MAX_VALUE, 0), -1);
        Due.due("hottest(0, 2)", x.hottest(0, 2), -1);
        Due.due("hottest(0, -1)", x.hottest(0, -1), -1);
    }

    private static void walks() {
        TexelBank x = Due.told("cache 1 by 1 of 4;" + S + texture(0, 4, 4, 2, "rows"));
        int[] due = {4, 16, 4, 4};
        for (int how = 0; how < 4; how++) {
            Due.due("walk(0, 0, " + how + ")", x.walk(0, 0, how), due[how]);
        }
        Due.due("walk(0, 1, 1)", x.walk(0, 1, 1), 1);
        Due.due("bestWalk of like ones", x.bestWalk(0, 0), 0);
        x = Due.told("cache 1 by 1 of 16;" + S + texture(0, 16, 8, 1, "tiles"));
        int[] tiled = {32, 32, 8, 8};
        for (int how = 0; how < 4; how++) {
            Due.due("walk(0, 0, " + how + ") of tiles", x.walk(0, 0, how), tiled[how]);
        }
        Due.due("bestWalk", x.bestWalk(0, 0), 2);
        Due.due("walkAs rows", x.walkAs(0, 0, 0, 0), 8);
        Due.due("walkAs tiles", x.walkAs(0, 0, 0, 1), 32);
        Due.due("walkAs curves", x.walkAs(0, 0, 0, 2), 32);
        Due.due("bestOrder of rows", x.bestOrder(0, 0, 0), 0);
        Due.due("bestOrder of tiles", x.bestOrder(0, 0, 3), 1);
        Due.due("bestOrder of columns", x.bestOrder(0, 0, 1), 1);
        Due.due("bestOrder of places", x.bestOrder(0, 0, 2), 0);
        x = Due.told("cache 1 by 1 of 2;" + S + texture(0, 2, 4, 1, "rows"));
        Due.due("columns miss all", x.walk(0, 0, 1), 8);
        Due.due("columns are no best walk", x.bestWalk(0, 0), 0);
        // a walk leaves the cache in use as it is, and starts from an empty one
        x = Due.told("cache 1 by 1 of 4;" + S + texture(0, 4, 4, 2, "rows"));
        x.fetch(0, 0, 0, 3);
        x.walk(0, 0, 0);
        x.bestWalk(0, 0);
        x.bestOrder(0, 0, 1);
        Due.due("walk", x.walk(0, 0, 0), 4);
        Due.due("misses", x.about(6), 1);
        Due.due("hits", x.about(5), 0);
        Due.due("leaves", x.leaves(0), 3);
        Due.due("hottest", x.hottest(1, 0), -1);
    }

    /** The texels of a walk as y * width + x. */
    private static List<Integer> plainWalk(TexelBank x, int level, int how, int order) {
        int wide = x.level(0, level, 0);
        int high = x.level(0, level, 1);
        List<Integer> walk = new ArrayList<>();
        if (how == 0) {
            for (int k = 0; k < wide * high; k++) {
                walk.add(k);
            }
        } else if (how == 1) {
            for (int column = 0; column < wide; column++) {
                for (int row = 0; row < high; row++) {
                    walk.add(row * wide + column);
                }
            }
        } else if (how == 2) {
            for (int place = 0; place < wide * high; place++) {
                for (int k = 0; k < wide * high; k++) {
                    if (x.moved(0, level, k, order) == place) {
                        walk.add(x.at(0, level, k));
                    }
                }
            }
        } else {
            for (int top = 0; top < high; top += 4) {
                for (int left = 0; left < wide; left += 4) {
                    for (int row = top; row < Math.min(top + 4, high); row++) {
                        for (int column = left; column < Math.min(left + 4, wide); column++) {
                            walk.add(row * wide + column);
                        }
                    }
                }
            }
        }
        return walk;
    }

    private static int plainMisses(TexelBank x, int level, int how, int order) {
        int wide = x.level(0, level, 0);
        int[] behind = new int[wide * x.level(0, level, 1)];
        for (int k = 0; k < behind.length; k++) {
            behind[x.at(0, level, k)] = x.moved(0, level, k, order);
        }
        List<List<Integer>> sets = new ArrayList<>();
        for (int k = 0; k < x.about(2); k++) {
            sets.add(new ArrayList<>());
        }
        int misses = 0;
        for (int texel : plainWalk(x, level, how, order)) {
            Integer line = (x.texture(0, 0) * 400 + x.level(0, level, 2) + behind[texel]) / x.about(4);
            List<Integer> set = sets.get(line % x.about(2));
            if (!set.remove(line)) {
                misses++;
            }
            set.add(line);
            if (set.size() > x.about(3)) {
                set.remove(0);
            }
        }
        return misses;
    }

    private static void walksAgainstPlainOnes() {
        String[] caches = {"1 by 1 of 4", "2 by 2 of 8", "8 by 4 of 1", "4 by 3 of 16", "1 by 4 of 2"};
        int[][] sizes = {{16, 16, 5}, {8, 2, 4}, {2, 16, 5}, {1, 8, 1}, {4, 4, 3}, {16, 4, 3}};
        for (String cache : caches) {
            for (int k = 0; k < sizes.length; k++) {
                int[] size = sizes[k];
                TexelBank x = Due.told("cache " + cache + ";none n;" + S + texture(3 * k, size[0], size[1], size[2], ORDERS[k % 3]));
                for (int level = 0; level < size[2]; level += 2) {
                    dueWalks(x, level, k % 3);
                }
            }
        }
    }

    private static void dueWalks(TexelBank x, int level, int own) {
        int bestWalk = 0;
        for (int how = 0; how < 4; how++) {
            int bestOrder = 0;
            int[] misses = new int[3];
            for (int order = 0; order < 3; order++) {
                misses[order] = plainMisses(x, level, how, order);
                Due.due("walkAs(0, " + level + ", " + how + ", " + order + ")", x.walkAs(0, level, how, order), misses[order]);
                bestOrder = misses[order] < misses[bestOrder] ? order : bestOrder;
            }
            Due.due("walk(0, " + level + ", " + how + ")", x.walk(0, level, how), misses[own]);
            Due.due("bestOrder(0, " + level + ", " + how + ")", x.bestOrder(0, level, how), bestOrder);
            bestWalk = misses[own] < x.walk(0, level, bestWalk) ? how : bestWalk;
        }
        Due.due("bestWalk(0, " + level + ")", x.bestWalk(0, level), bestWalk);
    }

    private static void strangeWalks() {
        TexelBank x = Due.told("cache 1 by 1 of 4;" + S + texture(0, 4, 4, 2, "rows"));
        Due.due("walk, no how", x.walk(0, 0, 4), -1);
        Due.due("walk, no how", x.walk(0, 0, -1), -1);
        Due.due("walk, no level", x.walk(0, 2, 0), -1);
        Due.due("walk, no texture", x.walk(1, 0, 0), -1);
        Due.due("bestWalk, no level", x.bestWalk(0, -1), -1);
        Due.due("bestWalk, no texture", x.bestWalk(-1, 0), -1);
        Due.due("walkAs, no order", x.walkAs(0, 0, 0, 3), -1);
        Due.due("walkAs, no order", x.walkAs(0, 0, 0, -1), -1);
        Due.due("walkAs, no how", x.walkAs(0, 0, 4, 0), -1);
        Due.due("walkAs, no level", x.walkAs(0, 2, 0, 0), -1);
        Due.due("walkAs, no texture", x.walkAs(1, 0, 0, 0), -1);
        Due.due("bestOrder, no how", x.bestOrder(0, 0, 4), -1);
        Due.due("bestOrder, no how", x.bestOrder(0, 0, -1), -1);
        Due.due("bestOrder, no level", x.bestOrder(0, 2, 0), -1);
        Due.due("bestOrder, no texture", x.bestOrder(1, 0, 0), -1);
    }
}
