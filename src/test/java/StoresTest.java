/** Promises 6 to 16, 45 and 46: PLACES asked and set, STORES turned into others, ACTS, images. */
public final class StoresTest {
    private static final int STRANGE = TexelBank.STRANGE;
    private static final int OUT = 1;
    private static final int OTHER = 2;
    private static final int NOTHING = 3;
    // For each KIND of numbers the HOWS that it widens to.
    private static final String[] WIDENS = {"1", "245678", "35678", "45678", "5678", "678", "78", "8"};
    private static final String[] KINDS = {"bits", "bytes", "chars", "shorts", "ints", "longs", "floats", "doubles", "texels", "words"};

    public static void main(String[] args) {
        kindsAndLengths();
        widening();
        cutting();
        refusals();
        boxes();
        strangeCalls();
        acts();
        texelsAreAlwaysOthers();
        converting();
        convertingObjects();
        losing();
        comparing();
        images();
        Due.close();
    }

    private static void kindsAndLengths() {
        TexelBank x = Due.told("store a words 3;thing b;none c;store d bits 400;");
        Due.due("kind(0)", x.kind(0), 9);
        Due.due("kind(1)", x.kind(1), 10);
        Due.due("kind(2)", x.kind(2), 11);
        Due.due("kind(3)", x.kind(3), 0);
        Due.due("kind(4)", x.kind(4), -1);
        Due.due("kind(-1)", x.kind(-1), -1);
        Due.due("length(0)", x.length(0), 3);
        Due.due("length(1)", x.length(1), -2);
        Due.due("length(2)", x.length(2), -3);
        Due.due("length(3)", x.length(3), 400);
        Due.due("length(4)", x.length(4), -1);
        Due.due("length(-1)", x.length(-1), -1);
    }

    private static boolean widens(int kind, int how) {
        return WIDENS[kind].indexOf('0' + how) >= 0;
    }

    private static void widening() {
        for (int kind = 0; kind < 8; kind++) {
            TexelBank x = Due.told("store s " + KINDS[kind] + " 2;");
            for (int how = 1; how <= 8; how++) {
                String of = "(" + how + ") of " + KINDS[kind];
                x.put(0, 1, kind + 1, 1);
                Due.due("peek" + of, x.peek(0, how, 1), widens(kind, how) ? 1 : STRANGE - OTHER);
                x.put(0, 1, kind + 1, 0);
                Due.due("poke" + of, x.poke(0, how, 1, 1), widens(how - 1, kind + 1) ? 0 : OTHER);
                Due.due("poked" + of, x.peek(0, 0, 1), widens(how - 1, kind + 1) ? 1 : 0);
                x.put(0, 1, kind + 1, 0);
                Due.due("put" + of, x.put(0, 1, how, 1), widens(how - 1, kind + 1) ? 0 : OTHER);
                Due.due("put then" + of, x.peek(0, 0, 1), widens(how - 1, kind + 1) ? 1 : 0);
            }
        }
    }

    private static void cutting() {
        TexelBank x = Due.told("store a bits 1;store b bytes 1;store c chars 1;store d shorts 1;store e doubles 9;");
        int[][] due = {
            // store, how, v, what it is then
            {0, 1, -5, 1}, {0, 1, 0, 0}, {0, 1, 256, 1},
            {1, 2, 300, 44}, {1, 2, 200, -56}, {1, 2, -129, 127}, {1, 2, -128, -128},
            {2, 3, -1, 65535}, {2, 3, 65536, 0}, {2, 3, 70000, 4464},
            {3, 4, 40000, -25536}, {3, 4, -32769, 32767}, {3, 4, -32768, -32768}, {3, 2, 384, -128},
            {4, 2, 300, 44}, {4, 3, 70000, 4464}, {4, 3, -2, 65534}, {4, 4, 40000, -25536},
            {4, 5, 1000000, 1000000}, {4, 6, -1000000, -1000000}, {4, 7, 999999, 999999}, {4, 8, -3, -3},
        };
        for (int[] row : due) {
            String of = "(" + row[0] + ", " + row[1] + ", 0, " + row[2] + ")";
            Due.due("poke" + of, x.poke(row[0], row[1], 0, row[2]), 0);
            Due.due("poked" + of, x.peek(row[0], 0, 0), row[3]);
            Due.due("put" + of, x.put(row[0], 0, row[1], row[2]), 0);
            Due.due("put then" + of, x.peek(row[0], 0, 0), row[3]);
        }
    }

    private static void refusals() {
        TexelBank x = Due.told("store a ints 3;store b texels 3;store c words 3;thing d;none e;");
        Due.due("peek of nothing", x.peek(4, 0, 0), STRANGE - NOTHING);
        Due.due("peek of nothing, out", x.peek(4, 5, 99), STRANGE - NOTHING);
        Due.due("peek of a thing", x.peek(3, 0, 0), STRANGE - OTHER);
        Due.due("peek of a thing, out", x.peek(3, 8, -1), STRANGE - OTHER);
        Due.due("peek of texels as numbers, out", x.peek(1, 5, 9), STRANGE - OTHER);
        Due.due("peek of words as bits, out", x.peek(2, 1, 3), STRANGE - OTHER);
        Due.due("peek of words as numbers", x.peek(2, 1, 0), STRANGE - OTHER);
        Due.due("peek of texels, out", x.peek(1, 0, 3), STRANGE - OUT);
        Due.due("peek of words, out", x.peek(2, 0, -1), STRANGE - OUT);
        Due.due("peek of texels", x.peek(1, 0, 2), -1);
        Due.due("peek of ints, out", x.peek(0, 0, 3), STRANGE - OUT);
        Due.due("peek of ints as bytes, out", x.peek(0, 2, -1), STRANGE - OUT);
        Due.due("peek of ints as bytes", x.peek(0, 2, 2), STRANGE - OTHER);
        Due.due("poke of nothing", x.poke(4, 5, 0, 1), NOTHING);
        Due.due("poke of a thing", x.poke(3, 5, 9, 1), OTHER);
        Due.due("poke of texels, out", x.poke(1, 5, 9, 1), OTHER);
        Due.due("poke of words", x.poke(2, 5, 0, 1), OTHER);
        Due.due("poke of ints as longs, out", x.poke(0, 6, 3, 1), OUT);
        Due.due("poke of ints as longs", x.poke(0, 6, 0, 1), OTHER);
        Due.due("put into nothing", x.put(4, 0, 0, 0), NOTHING);
        Due.due("put into a thing", x.put(3, 0, 5, 0), OTHER);
        Due.due("put nothing into ints", x.put(0, 0, 0, 0), OTHER);
        Due.due("put nothing into ints, out", x.put(0, 99, 0, 0), OTHER);
        Due.due("put a word into ints, out", x.put(0, 99, 10, 1), OUT);
        Due.due("put a texel into ints, out", x.put(0, -1, 9, 1), OUT);
        Due.due("put a word into ints", x.put(0, 0, 10, 1), OTHER);
        Due.due("put a texel into ints", x.put(0, 0, 9, 1), OTHER);
        Due.due("put a long into ints, out", x.put(0, 3, 6, 1), OUT);
        Due.due("put an int into texels", x.put(1, 0, 5, 1), OTHER);
        Due.due("put an int into texels, out", x.put(1, 3, 5, 1), OUT);
        Due.due("put a word into texels", x.put(1, 0, 10, 1), OTHER);
        Due.due("put a texel into words", x.put(2, 0, 9, 1), OTHER);
        Due.due("put a texel into words, out", x.put(2, 3, 9, 1), OUT);
        Due.due("put nothing into words, out", x.put(2, 3, 0, 1), OUT);
        Due.due("nothing was set", x.about(8), 0);
    }

    private static void boxes() {
        TexelBank x = Due.told("store a texels 3;store b words 3;");
        Due.due("put a texel", x.put(0, 1, 9, -70000), 0);
        Due.due("peek", x.peek(0, 0, 1), -70000);
        for (int letters = 0; letters <= 6; letters++) {
            Due.due("put a word", x.put(1, 2, 10, letters), 0);
            Due.due("peek", x.peek(1, 0, 2), letters);
        }
        Due.due("put nothing, whatever v", x.put(0, 1, 0, Integer.MIN_VALUE), 0);
        Due.due("peek", x.peek(0, 0, 1), -1);
        Due.due("put nothing, whatever v", x.put(1, 2, 0, 7), 0);
        Due.due("peek", x.peek(1, 0, 2), -1);
    }

    private static void strangeCalls() {
        TexelBank x = Due.told("store a ints 3;store b words 3;store c texels 3;none d;");
        Due.due("peek of no store", x.peek(4, 0, 0), STRANGE);
        Due.due("peek of no store", x.peek(-1, 0, 0), STRANGE);
        Due.due("peek by no how", x.peek(0, 9, 0), STRANGE);
        Due.due("peek by no how", x.peek(3, -1, 0), STRANGE);
        Due.due("poke by no how", x.poke(0, 0, 0, 1), -1);
        Due.due("poke by no how", x.poke(0, 9, 0, 1), -1);
        Due.due("poke of no store", x.poke(4, 5, 0, 1), -1);
        Due.due("poke of no v", x.poke(0, 5, 0, 1000001), -1);
        Due.due("poke of no v", x.poke(3, 5, 0, -1000001), -1);
        Due.due("poke of the most", x.poke(0, 5, 0, -1000000), 0);
        Due.due("put into no store", x.put(-1, 0, 5, 1), -1);
        Due.due("put of no box", x.put(0, 0, 11, 0), -1);
        Due.due("put of no box", x.put(0, 0, -1, 0), -1);
        Due.due("put of no v", x.put(0, 0, 5, 1000001), -1);
        Due.due("put of no v", x.put(2, 0, 9, -1000001), -1);
        Due.due("put of no word", x.put(1, 0, 10, 7), -1);
        Due.due("put of no word", x.put(1, 0, 10, -1), -1);
        Due.due("put of no word into ints", x.put(0, 0, 10, 7), -1);
        Due.due("acts", x.about(8), 1);
    }

    private static void acts() {
        TexelBank x = Due.told("store a ints 3;store b bytes 3;");
        Due.due("undo without any", x.undo(), -1);
        x.poke(0, 5, 0, 0);
        Due.due("setting the same is no act", x.about(8), 0);
        x.poke(1, 2, 0, 256);
        Due.due("setting the same, cut, is no act", x.about(8), 0);
        x.poke(0, 5, 0, 4);
        x.put(1, 1, 2, 5);
        Due.due("acts", x.about(8), 2);
        Due.due("undo", x.undo(), 1);
        Due.due("peek", x.peek(1, 0, 1), 0);
        Due.due("peek", x.peek(0, 0, 0), 4);
        Due.due("undo", x.undo(), 0);
        Due.due("peek", x.peek(0, 0, 0), 0);
        Due.due("undo", x.undo(), -1);
        for (int v = 1; v <= 25; v++) {
            x.poke(0, 5, v % 3, v);
            Due.due("acts", x.about(8), Math.min(v, 20));
        }
        x.poke(0, 5, 0, x.peek(0, 0, 0));
        x.poke(1, 2, 0, 512);
        Due.due("setting the same is no act", x.about(8), 20);
        for (int v = 25; v > 5; v--) {
            Due.due("peek", x.peek(0, 0, v % 3), v);
            Due.due("undo", x.undo(), v - 6);
        }
        Due.due("undo of the oldest", x.undo(), -1);
        Due.due("peek", x.peek(0, 0, 5 % 3), 5);
        Due.due("peek", x.peek(0, 0, 4 % 3), 4);
        Due.due("peek", x.peek(0, 0, 3 % 3), 3);
    }

    private static void texelsAreAlwaysOthers() {
        TexelBank x = Due.told("store a texels 3;store b words 3;store c texels 3;");
        x.put(0, 0, 0, 0);
        Due.due("nothing where nothing was", x.about(8), 0);
        x.put(0, 0, 9, -1);
        Due.due("a texel of number -1 where nothing was", x.about(8), 1);
        x.put(0, 0, 9, -1);
        Due.due("a texel again", x.about(8), 2);
        x.put(0, 0, 0, 0);
        Due.due("nothing where a texel was", x.about(8), 3);
        x.put(1, 0, 10, 3);
        x.put(1, 0, 10, 3);
        Due.due("a word twice", x.about(8), 5);
        Due.due("undo", x.undo(), 4);
        Due.due("peek", x.peek(1, 0, 0), 3);
        Due.due("undo", x.undo(), 3);
        Due.due("undo", x.undo(), 2);
        Due.due("loses: the texel of number -1 is there again", x.loses(0, 9), 1);
        x.convert(0, 2);
        x.convert(0, 2);
        Due.due("texels turned twice", x.about(8), 4);
        x.put(0, 0, 0, 0);
        x.convert(0, 2);
        Due.due("nothing turned where a texel was", x.about(8), 6);
        x.convert(0, 2);
        Due.due("nothing turned where nothing was", x.about(8), 6);
    }

    private static void converting() {
        TexelBank x = Due.told("store a bytes 4;store b doubles 3;store c bits 4;store d words 4;thing e;none f;");
        for (int place = 0; place < 4; place++) {
            x.poke(0, 2, place, -place - 1);
        }
        Due.due("convert into doubles", x.convert(0, 1), 0);
        Due.due("peek", x.peek(1, 0, 2), -3);
        Due.due("it is one act", x.about(8), 5);
        Due.due("convert again", x.convert(0, 1), 0);
        Due.due("it is none", x.about(8), 5);
        Due.due("doubles into bytes", x.convert(1, 0), 3);
        Due.due("bytes into bits", x.convert(0, 2), 4);
        Due.due("bytes into words", x.convert(0, 3), 4);
        Due.due("words into bytes", x.convert(3, 0), 4);
        Due.due("acts", x.about(8), 5);
        Due.due("into itself", x.convert(0, 0), -1);
        Due.due("into a thing", x.convert(0, 4), -1);
        Due.due("into nothing", x.convert(0, 5), -1);
        Due.due("of a thing", x.convert(4, 0), -1);
        Due.due("of none such", x.convert(6, 0), -1);
        Due.due("into none such", x.convert(0, -1), -1);
        Due.due("undo", x.undo(), 4);
        Due.due("peek", x.peek(1, 0, 0), 0);
        Due.due("peek", x.peek(1, 0, 2), 0);
    }

    private static void convertingObjects() {
        TexelBank x = Due.told("store a texels 3;store b words 5;store c texels 4;");
        x.put(0, 0, 9, 7);
        x.put(0, 2, 9, 8);
        x.put(1, 0, 10, 1);
        x.put(1, 1, 10, 2);
        x.put(1, 4, 10, 3);
        x.put(2, 1, 9, 5);
        x.put(2, 3, 9, 6);
        Due.due("texels into words", x.convert(0, 1), 2);
        Due.due("a texel is refused", x.peek(1, 0, 0), 1);
        Due.due("nothing is not", x.peek(1, 0, 1), -1);
        Due.due("beyond both", x.peek(1, 0, 4), 3);
        Due.due("texels into texels", x.convert(0, 2), 0);
        Due.due("peek", x.peek(2, 0, 0), 7);
        Due.due("peek", x.peek(2, 0, 1), -1);
        Due.due("peek", x.peek(2, 0, 2), 8);
        Due.due("peek", x.peek(2, 0, 3), 6);
    }

    private static void losing() {
        for (int kind = 0; kind < 8; kind++) {
            TexelBank x = Due.told("store s " + KINDS[kind] + " 5;");
            for (int other = 0; other < 8; other++) {
                Due.due("loses(0, " + other + ") of " + KINDS[kind], x.loses(0, other), widens(kind, other + 1) ? 0 : 5);
            }
            Due.due("numbers as texels", x.loses(0, 8), 5);
            Due.due("numbers as words", x.loses(0, 9), 5);
            Due.due("as no kind", x.loses(0, 10), -1);
            Due.due("as no kind", x.loses(0, -1), -1);
        }
        TexelBank x = Due.told("store a words 5;thing b;none c;");
        x.put(0, 1, 10, 0);
        x.put(0, 2, 10, 6);
        Due.due("words as words", x.loses(0, 9), 0);
        Due.due("words as texels", x.loses(0, 8), 2);
        Due.due("words as ints", x.loses(0, 4), 5);
        Due.due("a thing", x.loses(1, 4), -1);
        Due.due("none", x.loses(2, 4), -1);
        Due.due("none such", x.loses(3, 4), -1);
        Due.due("acts", x.about(8), 2);
    }

    private static void comparing() {
        TexelBank x = Due.told("store a ints 5;store b words 3;store c texels 400;thing d;none e;");
        Due.due("unlike(0, 1)", x.unlike(0, 1), 0);
        Due.due("unlike(1, 2)", x.unlike(1, 2), -2);
        Due.due("unlike(0, 0)", x.unlike(0, 0), -2);
        x.poke(0, 5, 0, -1);
        x.poke(0, 5, 1, -1);
        x.poke(0, 5, 2, 3);
        Due.due("unlike(0, 1)", x.unlike(0, 1), 2);
        x.put(1, 2, 10, 3);
        Due.due("unlike(0, 1)", x.unlike(0, 1), -2);
        Due.due("unlike(0, 2)", x.unlike(0, 2), 2);
        Due.due("unlike(0, 3)", x.unlike(0, 3), -1);
        Due.due("unlike(4, 0)", x.unlike(4, 0), -1);
        Due.due("unlike(0, 5)", x.unlike(0, 5), -1);
        Due.due("unlike(-1, 0)", x.unlike(-1, 0), -1);
        Due.due("total(0)", x.total(0), 1);
        Due.due("total(1)", x.total(1), 1);
        Due.due("total(2)", x.total(2), -400);
        Due.due("total(3)", x.total(3), 0);
        Due.due("total(4)", x.total(4), 0);
        Due.due("total(5)", x.total(5), 0);
        Due.due("total(-1)", x.total(-1), 0);
        Due.due("find(0, 0, -1)", x.find(0, 0, -1), 0);
        Due.due("find(0, 1, -1)", x.find(0, 1, -1), 1);
        Due.due("find(0, 2, -1)", x.find(0, 2, -1), -1);
        Due.due("find(0, 0, 0)", x.find(0, 0, 0), 3);
        Due.due("find(0, 4, 0)", x.find(0, 4, 0), 4);
        Due.due("find(0, 5, 0)", x.find(0, 5, 0), -1);
        Due.due("find(0, -1, 0)", x.find(0, -1, 0), -1);
        Due.due("find(0, most, 0)", x.find(0, Integer.MAX_VALUE, 0), -1);
        Due.due("find(2, 399, -1)", x.find(2, 399, -1), 399);
        Due.due("find(3, 0, 0)", x.find(3, 0, 0), -1);
        Due.due("find(4, 0, -1)", x.find(4, 0, -1), -1);
        Due.due("find(5, 0, 0)", x.find(5, 0, 0), -1);
    }

    private static void images() {
        TexelBank x = Due.told("store a longs 400;store b texels 2;store c words 2;thing d;");
        Due.due("back ahead of any image", x.back(0), -1);
        Due.due("image(0)", x.image(0), 999999);
        x.poke(0, 6, 0, 1000000);
        x.poke(0, 6, 1, 1000000);
        x.put(1, 0, 9, -1);
        x.put(1, 1, 9, 9);
        x.put(2, 1, 10, 0);
        Due.due("image(1)", x.image(1), 2000007 - 2 * 1000003);
        Due.due("image(2)", x.image(2), -1);
        Due.due("image(-1)", x.image(-1), -1);
        Due.due("back(2)", x.back(2), -1);
        Due.due("back(-1)", x.back(-1), -1);
        Due.due("an image is no act", x.about(8), 5);
        Due.due("back(0)", x.back(0), 999999);
        Due.due("no acts are kept", x.about(8), 0);
        Due.due("undo", x.undo(), -1);
        Due.due("total(0)", x.total(0), 0);
        Due.due("loses(1, 9)", x.loses(1, 9), 0);
        x.poke(0, 6, 7, 7);
        Due.due("back(1)", x.back(1), 2000007 - 2 * 1000003);
        Due.due("total(0)", x.total(0), 2000000);
        Due.due("texel of number -1 is there", x.loses(1, 9), 2);
    }
}
