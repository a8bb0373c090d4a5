/** The edges that the document names of PLACES, of what is REFUSED, of ACTS, and in promises 6 to 16, 45 and 46. */
public final class StoresEdgesTest {
    private static final String TERMS = Document.TERMS;
    private static final int STRANGE = TexelBank.STRANGE;
    private static final int OUT = 1;
    private static final int OTHER = 2;
    private static final int NOTHING = 3;
    private static final int MOST = 1000000;
    private static final String[] KINDS = {"bits", "bytes", "chars", "shorts", "ints", "longs", "floats", "doubles", "texels", "words"};
    // For each KIND of numbers the HOWS that it widens to.
    private static final String[] WIDENS = {"1", "245678", "35678", "45678", "5678", "678", "78", "8"};
    private static final int[] OUTSIDE = {-1, 3, 4, 400, Integer.MIN_VALUE, Integer.MAX_VALUE};
    private static final String MIXED = "store a ints 3;store b texels 3;store c words 3;thing d;none e;";

    public static void main(String[] args) {
        numbers();
        asking();
        widening();
        poking();
        putting();
        cutting();
        boxes();
        noSuchValues();
        actsThatAreNone();
        latestActs();
        kindsAndLengths();
        strangePeeks();
        strangePokes();
        converting();
        convertingTogether();
        comparing();
        summing();
        finding();
        losing();
        undoing();
        imaging();
        goingBack();
        Due.close();
    }

    /** A STORE of 3 PLACES of a KIND; 10: a thing, 11: none. */
    private static TexelBank one(int kind) {
        return Due.told(kind == 10 ? "thing a;" : kind == 11 ? "none a;" : "store a " + KINDS[kind] + " 3;");
    }

    private static boolean widens(int kind, int how) {
        return kind < 8 && WIDENS[kind].indexOf('0' + how) >= 0;
    }

    private static void numbers() {
        Due.sentence(TERMS, "a bit is 1 or 0, a char its code, a float, a double is cut towards 0");
        TexelBank x = Due.told("store a bits 3;store b chars 3;store c floats 3;store d doubles 3;");
        x.poke(0, 1, 0, -7);
        Due.due("a bit", x.peek(0, 0, 0), 1);
        Due.due("a bit", x.peek(0, 1, 1), 0);
        x.poke(1, 3, 0, 65535);
        Due.due("a char", x.peek(1, 0, 0), 65535);
        Due.due("a char as an int", x.peek(1, 5, 0), 65535);
        for (int v : new int[] {-MOST, -999999, -1, 0, 1, 999999, MOST}) {
            x.poke(2, 7, 0, v);
            x.poke(3, 8, 0, v);
            Due.due("a float", x.peek(2, 7, 0), v);
            Due.due("a float as a double", x.peek(2, 8, 0), v);
            Due.due("a double", x.peek(3, 8, 0), v);
        }
        Due.sentence(TERMS, "a texel has a number of its own, a word is one of \"\", \"a\", \"ab\" .. \"abcdef\" and counts as many "
            + "as it has letters");
        x = Due.told("store a texels 3;store b words 3;");
        for (int v : new int[] {-MOST, -1, 0, MOST}) {
            x.put(0, 2, 9, v);
            Due.due("a texel", x.peek(0, 0, 2), v);
        }
        for (int letters = 0; letters <= 6; letters++) {
            x.put(1, 2, 10, letters);
            Due.due("a word", x.peek(1, 0, 2), letters);
        }
        Due.sentence(TERMS, "a texel, a word that is not there counts -1");
        Due.due("no texel", x.peek(0, 0, 0), -1);
        Due.due("no word", x.peek(1, 0, 0), -1);
        x.put(0, 2, 0, 0);
        x.put(1, 2, 0, 0);
        Due.due("no texel any more", x.peek(0, 0, 2), -1);
        Due.due("no word any more", x.peek(1, 0, 2), -1);
    }

    /** By what a PLACE of a KIND is REFUSED if it fits or not; the STORE has 3 PLACES. */
    private static int refused(int kind, boolean asNumber, int place, boolean fits) {
        if (kind == 11) {
            return NOTHING;
        }
        if (kind == 10 || asNumber && kind >= 8) {
            return OTHER;
        }
        return place < 0 || place > 2 ? OUT : fits ? 0 : OTHER;
    }

    private static void asking() {
        Due.sentence(TERMS, "REFUSED, the first that is so: NOTHING (3): the STORE is none; OTHER (2): it is a thing, or (HOW 1 to 8) "
            + "a row "
            + "of texels or words; OUT (1): there is no such PLACE; OTHER (2): its KIND does not widen to what is asked (what is set not to its KIND).");
        for (int kind = 0; kind < 12; kind++) {
            TexelBank x = one(kind);
            for (int how = 0; how <= 8; how++) {
                for (int place = 0; place < 3 + OUTSIDE.length; place++) {
                    int at = place < 3 ? place : OUTSIDE[place - 3];
                    int refused = refused(kind, how > 0, at, how == 0 || widens(kind, how));
                    int due = refused != 0 ? STRANGE - refused : kind < 8 ? 0 : -1;
                    Due.due("peek(0, " + how + ", " + at + ") of kind " + kind, x.peek(0, how, at), due);
                }
            }
        }
    }

    private static void widening() {
        Due.sentence(TERMS, "It widens: each to itself; bytes to shorts, ints, longs, floats, doubles; chars, shorts to ints and what "
            + "these widen to; "
            + "ints to longs, floats, doubles; longs to floats, doubles; floats to doubles.");
        for (int kind = 0; kind < 8; kind++) {
            TexelBank x = one(kind);
            x.put(0, 0, kind + 1, 1);
            for (int how = 1; how <= 8; how++) {
                Due.due(KINDS[kind] + " as " + KINDS[how - 1], x.peek(0, how, 0), widens(kind, how) ? 1 : STRANGE - OTHER);
                Due.due(KINDS[kind] + " into " + KINDS[how - 1], one(how - 1).put(0, 0, kind + 1, 1), widens(kind, how) ? 0 : OTHER);
            }
            Due.due(KINDS[kind] + " as they are", x.peek(0, 0, 0), 1);
        }
    }

    private static void poking() {
        Due.sentence("Promise 9", "A PLACE is set HOW (1 .. 8): 0, or by what it is REFUSED (1 .. 3)");
        for (int kind = 0; kind < 12; kind++) {
            TexelBank x = one(kind);
            for (int how = 1; how <= 8; how++) {
                for (int place = 0; place < 3 + OUTSIDE.length; place++) {
                    int at = place < 3 ? place : OUTSIDE[place - 3];
                    int refused = refused(kind, true, at, kind < 8 && widens(how - 1, kind + 1));
                    Due.due("poke(0, " + how + ", " + at + ", 1) of kind " + kind, x.poke(0, how, at, 1), refused);
                }
            }
            Due.due("all is set of kind " + kind, x.total(0), kind < 8 ? 3 : kind < 10 ? -3 : 0);
        }
    }

    private static boolean goesInto(int kind, int box) {
        if (kind >= 8) {
            return box == 0 || box == kind + 1;
        }
        return box >= 1 && box <= 8 && widens(box - 1, kind + 1);
    }

    private static void putting() {
        Due.sentence(TERMS, "A BOX of 1 to 8 into a row of numbers widens likewise, else OTHER; 0, 9, 10 into a row of numbers: OTHER; "
            + "into texels go 0 and 9, into words 0 and 10, others: OTHER.");
        for (int kind = 0; kind < 12; kind++) {
            TexelBank x = one(kind);
            for (int box = 0; box <= 10; box++) {
                for (int place = 0; place < 3 + OUTSIDE.length; place++) {
                    int at = place < 3 ? place : OUTSIDE[place - 3];
                    boolean never = box == 0 && kind < 8;
                    int refused = never ? OTHER : refused(kind, false, at, goesInto(kind, box));
                    Due.due("put(0, " + at + ", " + box + ", 1) of kind " + kind, x.put(0, at, box, 1), refused);
                }
            }
        }
        Due.sentence(TERMS, "(A BOX 0 is OTHER of a row of numbers, be there such a PLACE or not.)");
        for (int kind = 0; kind < 8; kind++) {
            TexelBank x = one(kind);
            Due.due("put of nothing into " + KINDS[kind], x.put(0, 0, 0, 0), OTHER);
            for (int at : OUTSIDE) {
                Due.due("put of nothing out of " + KINDS[kind], x.put(0, at, 0, 0), OTHER);
                Due.due("put of a texel out of " + KINDS[kind], x.put(0, at, 9, 0), OUT);
                Due.due("put of a word out of " + KINDS[kind], x.put(0, at, 10, 0), OUT);
            }
        }
        for (int kind = 8; kind < 10; kind++) {
            Due.due("put of nothing out of " + KINDS[kind], one(kind).put(0, 3, 0, 0), OUT);
        }
    }

    private static void cutting() {
        Due.sentence(TERMS, "cut first to what it is set as (a bit: whether v is not 0; bytes, chars, shorts: the lowest 8, 16, 16 bits)");
        int[][] due = {
            // what it is set as, v, what it is then
            {1, 0, 0}, {1, 1, 1}, {1, -1, 1}, {1, 2, 1}, {1, 256, 1}, {1, MOST, 1}, {1, -MOST, 1},
            {2, 127, 127}, {2, 128, -128}, {2, -128, -128}, {2, -129, 127}, {2, 255, -1}, {2, 256, 0}, {2, MOST, 64}, {2, -MOST, -64},
            {3, 65535, 65535}, {3, 65536, 0}, {3, -1, 65535}, {3, 32768, 32768}, {3, MOST, 16960}, {3, -MOST, 48576},
            {4, 32767, 32767}, {4, 32768, -32768}, {4, -32768, -32768}, {4, -32769, 32767}, {4, 65536, 0}, {4, MOST, 16960}, {4, -MOST, -16960},
            {5, MOST, MOST}, {5, -MOST, -MOST}, {6, MOST, MOST}, {7, -MOST, -MOST}, {8, MOST, MOST},
        };
        for (int[] row : due) {
            for (int kind = 0; kind < 8; kind++) {
                if (widens(row[0] - 1, kind + 1)) {
                    TexelBank x = one(kind);
                    String of = row[1] + " as " + row[0] + " into " + KINDS[kind];
                    Due.due("poke of " + of, x.poke(0, row[0], 1, row[1]), 0);
                    Due.due("poked " + of, x.peek(0, 0, 1), row[2]);
                    Due.due("put of " + of, x.put(0, 2, row[0], row[1]), 0);
                    Due.due("put " + of, x.peek(0, 0, 2), row[2]);
                    Due.due("nothing else is set", x.peek(0, 0, 0), 0);
                }
            }
        }
    }

    private static void boxes() {
        Due.sentence(TERMS, "9 a texel of number v, 10 a word of v letters (those told above; other v: none such), 0 nothing (v is no "
            + "matter)");
        TexelBank x = Due.told(MIXED);
        for (int v : new int[] {-MOST, MOST}) {
            Due.due("a texel of " + v, x.put(1, 0, 9, v), 0);
        }
        for (int v : new int[] {-MOST - 1, MOST + 1, Integer.MIN_VALUE, Integer.MAX_VALUE}) {
            Due.due("a texel of " + v, x.put(1, 0, 9, v), -1);
            Due.due("nothing, with " + v, x.put(1, 1, 0, v), 0);
            Due.due("nothing, with " + v, x.put(2, 1, 0, v), 0);
            Due.due("nothing into ints, with " + v, x.put(0, 1, 0, v), OTHER);
            Due.due("nothing into a thing, with " + v, x.put(3, 1, 0, v), OTHER);
            Due.due("nothing into none, with " + v, x.put(4, 1, 0, v), NOTHING);
        }
        for (int v : new int[] {-1, 7, 8, MOST, Integer.MIN_VALUE, Integer.MAX_VALUE}) {
            for (int store = 0; store < 5; store++) {
                Due.due("a word of " + v + " into " + store, x.put(store, 0, 10, v), -1);
            }
        }
        Due.due("a word of 6", x.put(2, 0, 10, 6), 0);
        Due.due("a word of 0", x.put(2, 1, 10, 0), 0);
    }

    private static void noSuchValues() {
        Due.sentence(TERMS, "What is set: v (-1,000,000 .. 1,000,000)");
        TexelBank x = Due.told(MIXED);
        int[] far = {MOST + 1, -MOST - 1, Integer.MAX_VALUE, Integer.MIN_VALUE};
        for (int how = 1; how <= 8; how++) {
            for (int v : far) {
                for (int store = 0; store < 5; store++) {
                    Due.due("poke of " + v, x.poke(store, how, 0, v), -1);
                    Due.due("put of " + v, x.put(store, 0, how, v), -1);
                }
            }
        }
        Due.due("nothing is done", x.about(8), 0);
        Due.due("the most", x.poke(0, 5, 0, MOST), 0);
        Due.due("the least", x.poke(0, 5, 1, -MOST), 0);
        Due.due("both", x.peek(0, 0, 0) + x.peek(0, 0, 1), 0);
    }

    private static void actsThatAreNone() {
        Due.sentence(TERMS, "where one PLACE at least has another thing by it than it had (a texel, a word that is set is always "
            + "another one; "
            + "nothing where nothing was is not)");
        TexelBank x = Due.told(MIXED + "texture p on a at 0 size 2 by 1 levels 2 rows repeat;");
        x.poke(0, 5, 0, 0);
        x.put(0, 0, 2, 256);
        x.fill(0, 0, 0, 0);
        x.paint(0, 0, 0, 0);
        x.make(0);
        x.put(1, 0, 0, 0);
        x.put(2, 0, 0, 0);
        x.convert(1, 2);
        x.convert(0, 1);
        Due.due("nothing has another thing", x.about(8), 0);
        x.poke(0, 6, 0, 1);
        x.poke(0, 5, 3, 1);
        x.put(0, 0, 0, 0);
        x.put(1, 3, 9, 1);
        x.put(3, 0, 5, 1);
        x.put(4, 0, 5, 1);
        x.poke(5, 5, 0, 1);
        x.paint(0, 2, 0, 1);
        x.fill(1, 1, 1, 1);
        Due.due("what is refused is no act", x.about(8), 0);
        for (int k = 1; k <= 3; k++) {
            x.put(1, 0, 9, -1);
            Due.due("a texel is always another one", x.about(8), k);
        }
        for (int k = 4; k <= 6; k++) {
            x.put(2, 0, 10, 0);
            Due.due("a word is always another one", x.about(8), k);
        }
        x.put(1, 0, 0, 9);
        Due.due("nothing where a texel was", x.about(8), 7);
        x.put(1, 0, 0, 9);
        Due.due("nothing where nothing was", x.about(8), 7);
        x.put(2, 0, 0, 9);
        Due.due("nothing where a word was", x.about(8), 8);
        x.fill(0, 1, 1, 1);
        Due.due("filled", x.about(8), 9);
        x.paint(0, 1, 0, 9);
        Due.due("painted", x.about(8), 10);
        x.poke(0, 5, 2, 9);
        Due.due("the made place is another", x.about(8), 11);
        x.make(0);
        Due.due("made", x.about(8), 12);
        x.make(0);
        Due.due("made without need", x.about(8), 12);
    }

    private static void latestActs() {
        Due.sentence(TERMS, "UNDO takes back the latest ACT that was not; 20 at most are kept, the oldest go.");
        for (int many = 0; many <= 45; many++) {
            TexelBank x = Due.told("store a ints 400;store b words 400;");
            for (int k = 1; k <= many; k++) {
                Due.due("an act", k % 2 == 0 ? x.poke(0, 5, k, k) : x.put(1, k, 10, 2), 0);
            }
            int kept = Math.min(20, many);
            Due.due("acts of " + many, x.about(8), kept);
            for (int left = kept - 1; left >= 0; left--) {
                int at = many - kept + left + 1;
                Due.due("it is there ahead of undo", x.peek(at % 2, 0, at), at % 2 == 0 ? at : 2);
                Due.due("undo", x.undo(), left);
                Due.due("it is gone", x.peek(at % 2, 0, at), at % 2 == 0 ? 0 : -1);
            }
            Due.due("undo without any", x.undo(), -1);
            for (int at = 1; at <= many - 20; at++) {
                Due.due("what has gone can't be undone", x.peek(at % 2, 0, at), at % 2 == 0 ? at : 2);
            }
        }
        TexelBank x = Due.told("store a ints 400;");
        x.poke(0, 5, 0, 1);
        x.poke(0, 5, 0, 2);
        Due.due("undo", x.undo(), 1);
        x.poke(0, 5, 0, 3);
        Due.due("undo of a later one", x.undo(), 1);
        Due.due("peek", x.peek(0, 0, 0), 1);
        Due.due("undo of the one that was not", x.undo(), 0);
        Due.due("peek", x.peek(0, 0, 0), 0);
    }

    private static void kindsAndLengths() {
        TexelBank x = Due.told(MIXED);
        int[] none = {-1, 5, 6, Integer.MIN_VALUE, Integer.MAX_VALUE};
        Due.sentence("Promise 6", "NONE if there is none such");
        for (int store : none) {
            Due.due("kind(" + store + ")", x.kind(store), -1);
        }
        Due.due("kind(4)", x.kind(4), 11);
        Due.sentence("Promise 7", "-2 (OTHER) of a thing, -3 (NOTHING) of none; NONE if there is none such");
        for (int store : none) {
            Due.due("length(" + store + ")", x.length(store), -1);
        }
        Due.due("a thing", x.length(3), -2);
        Due.due("none", x.length(4), -3);
        Due.due("the shortest", Due.told("store a bits 1;").length(0), 1);
        Due.due("the longest", Due.told("store a words 400;").length(0), 400);
    }

    private static void strangePeeks() {
        TexelBank x = Due.told(MIXED);
        Due.sentence("Promise 8", "STRANGE less 1, 2, 3, if it is REFUSED so");
        Due.due("out", x.peek(0, 0, 3), -1000000002);
        Due.due("other", x.peek(0, 2, 0), -1000000003);
        Due.due("nothing", x.peek(4, 0, 0), -1000000004);
        Due.sentence("Promise 8", "STRANGE if there is no such STORE, HOW");
        for (int store : new int[] {-1, 5, 6, Integer.MIN_VALUE, Integer.MAX_VALUE}) {
            Due.due("store " + store, x.peek(store, 0, 0), STRANGE);
        }
        for (int how : new int[] {-1, 9, 10, Integer.MIN_VALUE, Integer.MAX_VALUE}) {
            for (int store = 0; store < 5; store++) {
                Due.due("how " + how, x.peek(store, how, 0), STRANGE);
                Due.due("how " + how + ", out", x.peek(store, how, 3), STRANGE);
            }
        }
    }

    private static void strangePokes() {
        TexelBank x = Due.told(MIXED);
        Due.sentence("Promise 9", "NONE, doing nothing, if there is no such STORE, HOW, v");
        for (int far : new int[] {-1, 11, 12, Integer.MIN_VALUE, Integer.MAX_VALUE}) {
            Due.due("poke of store " + far, x.poke(far, 5, 0, 1), -1);
            Due.due("put of store " + far, x.put(far, 0, 5, 1), -1);
            for (int store = 0; store < 5; store++) {
                Due.due("poke how " + far, x.poke(store, far, 0, 1), -1);
                Due.due("put of box " + far, x.put(store, 0, far, 1), -1);
            }
        }
        for (int store = 0; store < 6; store++) {
            Due.due("poke how 0", x.poke(store, 0, 0, 1), -1);
            Due.due("poke how 9", x.poke(store, 9, 0, 1), -1);
        }
        Due.due("poke of store 5", x.poke(5, 5, 0, 1), -1);
        Due.due("put of store 5", x.put(5, 0, 5, 1), -1);
        Due.due("acts", x.about(8), 0);
        Due.due("total", x.total(0), 0);
        Due.sentence("Promise 10", "A BOX (0 .. 10) of v is set");
        Due.due("the first box", x.put(1, 0, 0, 1), 0);
        Due.due("the last box", x.put(2, 0, 10, 1), 0);
    }

    private static void converting() {
        Due.sentence("Promise 11", "as far as both go: how many were REFUSED");
        int[] lengths = {1, 3, 399, 400};
        for (int from : lengths) {
            for (int to : lengths) {
                TexelBank x = Due.told("store a bytes " + from + ";store b doubles " + to + ";store c bits " + to + ";");
                x.poke(0, 2, 0, 5);
                x.poke(0, 2, from - 1, 7);
                Due.due("bytes into doubles", x.convert(0, 1), 0);
                Due.due("the last place of both", x.peek(1, 0, Math.min(from, to) - 1), from <= to ? 7 : to == 1 ? 5 : 0);
                Due.due("bytes into bits", x.convert(0, 2), Math.min(from, to));
                Due.due("doubles into bytes", x.convert(1, 0), Math.min(from, to));
                Due.due("nothing is set", x.total(2), 0);
            }
        }
        Due.sentence("Promise 11", "NONE, doing nothing, if they are the same, or one can't be, or is no row");
        TexelBank x = Due.told(MIXED);
        x.poke(0, 5, 0, 1);
        x.put(1, 0, 9, 1);
        for (int store = 0; store < 5; store++) {
            Due.due("into itself " + store, x.convert(store, store), -1);
            for (int far : new int[] {-1, 3, 4, 5, 6, Integer.MIN_VALUE, Integer.MAX_VALUE}) {
                Due.due("from " + store + " to " + far, x.convert(store, far), -1);
                Due.due("from " + far + " to " + store, x.convert(far, store), -1);
            }
        }
        Due.due("none is as none", x.convert(5, 5), -1);
        Due.due("nothing is done", x.about(8), 2);
    }

    /** Each KIND into each other one: what is REFUSED, what is there then, whether it was an ACT. */
    private static void convertingTogether() {
        Due.sentence("Promise 11", "Each PLACE of a STORE (as a BOX of its own KIND; a texel, a word as it is) is set into that PLACE "
            + "of another one");
        for (int kind = 0; kind < 10; kind++) {
            for (int other = 0; other < 10; other++) {
                TexelBank x = Due.told("store a " + KINDS[kind] + " 4;store b " + KINDS[other] + " 3;");
                x.put(0, 1, kind + 1, 1);
                boolean goes = goesInto(other, kind + 1);
                // nothing goes into texels and words
                int refused = goes ? 0 : kind >= 8 && other >= 8 ? 1 : 3;
                Due.due("convert " + KINDS[kind] + " into " + KINDS[other], x.convert(0, 1), refused);
                Due.due("what is there", x.peek(1, 0, 1), goes ? 1 : other < 8 ? 0 : -1);
                Due.due("acts", x.about(8), goes ? 2 : 1);
                Due.due("loses", x.loses(0, other), goes ? 0 : kind >= 8 && other >= 8 ? 1 : 4);
                if (goes) {
                    Due.due("undo", x.undo(), 1);
                    Due.due("what was there", x.peek(1, 0, 1), other < 8 ? 0 : -1);
                }
            }
        }
        TexelBank x = Due.told("store a bytes 2;store b chars 2;store c longs 2;");
        x.poke(0, 2, 0, -5);
        x.poke(0, 2, 1, 127);
        Due.due("below 0", x.convert(0, 2), 0);
        Due.due("below 0", x.peek(2, 0, 0), -5);
        x.poke(1, 3, 0, 65535);
        Due.due("a char", x.convert(1, 2), 0);
        Due.due("a char", x.peek(2, 0, 0), 65535);
        Due.due("0 is set too", x.peek(2, 0, 1), 0);
        x.put(2, 0, 5, 1);
        x.convert(1, 2);
        Due.due("one place that is another is enough", x.about(8), 7);
        x.convert(1, 2);
        Due.due("none is another", x.about(8), 7);
    }

    private static void comparing() {
        Due.sentence("Promise 12", "as far as both go; -2 if there is none");
        TexelBank x = Due.told("store a ints 400;store b doubles 1;store c texels 400;store d words 3;thing e;none f;");
        Due.due("beyond the shorter one", x.unlike(0, 1), -2);
        x.poke(0, 5, 1, 5);
        Due.due("beyond the shorter one", x.unlike(1, 0), -2);
        x.poke(0, 5, 0, 5);
        Due.due("the first place", x.unlike(0, 1), 0);
        Due.due("with itself", x.unlike(0, 0), -2);
        Due.due("not there, both", x.unlike(2, 3), -2);
        x.put(2, 0, 9, -1);
        Due.due("a texel that counts -1", x.unlike(2, 3), -2);
        x.put(2, 399, 9, 7);
        x.put(3, 2, 10, 0);
        Due.due("the last place", x.unlike(3, 2), 2);
        x.poke(0, 5, 0, -1);
        x.poke(0, 5, 1, -1);
        for (int place = 2; place < 400; place++) {
            x.poke(0, 5, place, -1);
        }
        Due.due("the last of 400", x.unlike(0, 2), 399);
        Due.sentence("Promise 12", "NONE if one can't be, or is no row");
        for (int far : new int[] {-1, 4, 5, 6, Integer.MIN_VALUE, Integer.MAX_VALUE}) {
            Due.due("unlike(0, " + far + ")", x.unlike(0, far), -1);
            Due.due("unlike(" + far + ", 0)", x.unlike(far, 0), -1);
            Due.due("unlike(" + far + ", " + far + ")", x.unlike(far, far), -1);
        }
    }

    private static void summing() {
        Due.sentence("Promise 13", "NUMBERS of all PLACES together; 0 if there are none");
        TexelBank x = Due.told("store a longs 400;store b texels 400;store c words 2;thing d;none e;");
        for (int place = 0; place < 400; place++) {
            x.poke(0, 6, place, MOST);
        }
        Due.due("the most", x.total(0), 400L * MOST);
        Due.due("texels that are not there", x.total(1), -400);
        x.put(1, 0, 9, -MOST);
        Due.due("one that is there", x.total(1), -MOST - 399);
        x.put(2, 0, 10, 6);
        Due.due("words", x.total(2), 5);
        for (int store : new int[] {3, 4, 5, 6, -1, Integer.MIN_VALUE, Integer.MAX_VALUE}) {
            Due.due("total(" + store + ")", x.total(store), 0);
        }
    }

    private static void finding() {
        Due.sentence("Promise 14", "The first PLACE from one on (0 or more) with a NUMBER; NONE if there is none, or none such");
        TexelBank x = Due.told("store a longs 400;store b texels 3;store c words 3;thing d;none e;");
        x.poke(0, 6, 0, -1);
        x.poke(0, 6, 399, -1);
        x.poke(0, 6, 7, STRANGE / 1001);
        Due.due("at the first place", x.find(0, 0, -1), 0);
        Due.due("at the last place", x.find(0, 1, -1), 399);
        Due.due("from the last place on", x.find(0, 399, -1), 399);
        Due.due("from beyond", x.find(0, 400, -1), -1);
        Due.due("from far beyond", x.find(0, Integer.MAX_VALUE, 0), -1);
        for (int from : new int[] {-1, -2, Integer.MIN_VALUE}) {
            Due.due("from below 0", x.find(0, from, 0), -1);
        }
        Due.due("no such number", x.find(0, 0, 99), -1);
        Due.due("no such number at all", x.find(0, 0, Integer.MIN_VALUE), -1);
        Due.due("texels that are not there", x.find(1, 1, -1), 1);
        Due.due("what is not there is no number of its own", x.find(1, 0, Integer.MIN_VALUE), -1);
        x.put(2, 2, 10, 0);
        Due.due("a word without letters", x.find(2, 0, 0), 2);
        for (int store : new int[] {3, 4, 5, 6, -1, Integer.MIN_VALUE, Integer.MAX_VALUE}) {
            Due.due("find in " + store, x.find(store, 0, 0), -1);
            Due.due("find in " + store, x.find(store, 0, -1), -1);
        }
    }

    private static void losing() {
        Due.sentence("Promise 15", "NONE if one can't be, or is no row. (Nothing is done.)");
        TexelBank x = Due.told(MIXED);
        x.put(1, 0, 9, 5);
        for (int store = 0; store < 3; store++) {
            for (int kind : new int[] {-1, 10, 11, Integer.MIN_VALUE, Integer.MAX_VALUE}) {
                Due.due("loses(" + store + ", " + kind + ")", x.loses(store, kind), -1);
            }
        }
        for (int kind = 0; kind < 10; kind++) {
            for (int store : new int[] {3, 4, 5, -1, Integer.MIN_VALUE, Integer.MAX_VALUE}) {
                Due.due("loses(" + store + ", " + kind + ")", x.loses(store, kind), -1);
            }
        }
        Due.due("one texel is lost", x.loses(1, 9), 1);
        Due.due("it is there", x.peek(1, 0, 0), 5);
        Due.due("acts", x.about(8), 1);
        Due.due("kind", x.kind(1), 8);
        Due.sentence("Promise 15", "as long as it is");
        x = Due.told("store a ints 400;store b texels 400;store c ints 1;");
        Due.due("all of the longest", x.loses(0, 0), 400);
        Due.due("none of the longest", x.loses(0, 4), 0);
        Due.due("nothing is not lost", x.loses(1, 9), 0);
        Due.due("nothing is no number", x.loses(1, 7), 400);
        Due.due("all of the shortest", x.loses(2, 3), 1);
    }

    private static void undoing() {
        Due.sentence("Promise 16", "The latest ACT is taken back: how many are left; NONE if there is none.");
        TexelBank x = Due.told("store a texels 2;store b texels 2;store c ints 5;texture p on c at 0 size 2 by 2 levels 2 rows repeat;");
        Due.due("undo without any", x.undo(), -1);
        x.put(0, 0, 9, 4);
        x.convert(0, 1);
        x.fill(0, 1, 1, 1);
        x.paint(0, 0, 0, 9);
        x.poke(2, 5, 4, 99);
        x.make(0);
        Due.due("made", x.peek(2, 0, 4), (9 + 2 + 2 + 3) / 4);
        Due.due("undo of make", x.undo(), 5);
        Due.due("poked", x.peek(2, 0, 4), 99);
        Due.due("undo of poke", x.undo(), 4);
        Due.due("painted", x.peek(2, 0, 4), 4);
        Due.due("undo of paint", x.undo(), 3);
        Due.due("filled", x.peek(2, 0, 0), 1);
        Due.due("filled", x.peek(2, 0, 4), 2);
        Due.due("undo of fill", x.undo(), 2);
        Due.due("nothing filled", x.total(2), 0);
        Due.due("converted", x.peek(1, 0, 0), 4);
        Due.due("undo of convert", x.undo(), 1);
        Due.due("nothing there", x.peek(1, 0, 0), -1);
        Due.due("nothing there, indeed", x.loses(1, 9), 0);
        Due.due("undo of put", x.undo(), 0);
        Due.due("nothing there", x.loses(0, 9), 0);
        Due.due("undo without any", x.undo(), -1);
        Due.due("acts", x.about(8), 0);
    }

    private static void imaging() {
        Due.sentence("Promise 45", "All STORES are kept in a BOX 0, 1: NUMBERS of all together, modulo 1,000,003 (0 at least); NONE "
            + "if there is none such");
        TexelBank x = Due.told("store a longs 3;store b texels 1;thing c;none d;");
        int[] sums = {0, 1, 2, 1000002, 1000003, 1000004, -1, 2000000, -1000003, 2999998};
        int[] due = {1000002, 0, 1, 1000001, 1000002, 0, 1000001, 999996, 1000002, 999991};
        for (int k = 0; k < sums.length; k++) {
            int third = sums[k] / 3;
            x.poke(0, 6, 0, third);
            x.poke(0, 6, 1, third);
            x.poke(0, 6, 2, sums[k] - 2 * third);
            Due.due("image of " + sums[k] + " less 1", x.image(k % 2), due[k]);
        }
        for (int box : new int[] {-1, 2, 3, Integer.MIN_VALUE, Integer.MAX_VALUE}) {
            Due.due("image(" + box + ")", x.image(box), -1);
        }
        Due.due("all of an empty bank", new TexelBank().image(1), 0);
        TexelBank full = Due.told("store a longs 400;store b longs 400;");
        for (int place = 0; place < 400; place++) {
            full.poke(0, 6, place, MOST);
        }
        for (int k = 0; k < 50; k++) {
            full.convert(0, 1);
        }
        Due.due("sums beyond an int", full.image(0), 800L * MOST % 1000003);
    }

    private static void goingBack() {
        Due.sentence("Promise 46", "All STORES are as they were kept (no ACTS are kept then): likewise; NONE, doing nothing, if "
            + "nothing was, or there is no such BOX");
        TexelBank x = Due.told("store a ints 400;store b words 400;thing c;none d;store e texels 2;store f bits 1;");
        Due.due("back(0) without any", x.back(0), -1);
        Due.due("back(1) without any", x.back(1), -1);
        x.poke(0, 5, 399, 4);
        Due.due("back(0) without any", x.back(0), -1);
        Due.due("nothing is done", x.about(8), 1);
        Due.due("nothing is done", x.peek(0, 0, 399), 4);
        Due.due("image(1)", x.image(1), 1000003 - 400 - 2 + 4);
        Due.due("back(0), while 1 was kept", x.back(0), -1);
        x.put(1, 399, 10, 6);
        x.put(4, 1, 9, 1);
        x.poke(5, 1, 0, 1);
        Due.due("image(0)", x.image(0), 1000003 - 400 - 2 + 4 + 7 + 2 + 1);
        for (int box : new int[] {-1, 2, 3, Integer.MIN_VALUE, Integer.MAX_VALUE}) {
            Due.due("back(" + box + ")", x.back(box), -1);
        }
        Due.due("acts", x.about(8), 4);
        Due.due("back(1)", x.back(1), 1000003 - 400 - 2 + 4);
        Due.due("no acts", x.about(8), 0);
        Due.due("undo", x.undo(), -1);
        Due.due("a word", x.peek(1, 0, 399), -1);
        Due.due("a texel", x.loses(4, 9), 0);
        Due.due("a bit", x.peek(5, 0, 0), 0);
        Due.due("an int", x.peek(0, 0, 399), 4);
        Due.due("back(0)", x.back(0), 1000003 - 400 - 2 + 4 + 7 + 2 + 1);
        Due.due("a word", x.peek(1, 0, 399), 6);
        Due.due("a texel", x.loses(4, 9), 1);
        Due.due("a bit", x.peek(5, 0, 0), 1);
        x.poke(0, 5, 0, 1);
        Due.due("back(0) again", x.back(0), 1000003 - 400 - 2 + 4 + 7 + 2 + 1);
        Due.due("an int", x.peek(0, 0, 0), 0);
        x.poke(0, 5, 0, 1);
        x.image(0);
        Due.due("what is kept anew is back", x.back(0), 1000003 - 400 - 2 + 4 + 7 + 2 + 1 + 1);
        Due.due("bank", Due.tell(x, "store a ints 400;"), 1);
        Due.due("back(0) in a new bank", x.back(0), -1);
        Due.due("back(1) in a new bank", x.back(1), -1);
    }
}
