/** Promises 1 to 5 and 47: the TAPE, the text of a BANK, its FAULTS, what is told about. */
public final class TextTest {
    private static final String S = "store s ints 400;";

    public static void main(String[] args) {
        newObject();
        tape();
        tokens();
        otherWords();
        caches();
        stores();
        textures();
        fills();
        faultLeavesAll();
        newBankClearsAll();
        about();
        Due.close();
    }

    private static void newObject() {
        TexelBank x = new TexelBank();
        Due.due("NONE", TexelBank.NONE, -1);
        Due.due("STRANGE", TexelBank.STRANGE, -1000000001);
        int[] due = {0, 0, 4, 2, 4, 0, 0, 0, 0, 0, 0};
        for (int what = 0; what < due.length; what++) {
            Due.due("about(" + what + ") of a new object", x.about(what), due[what]);
        }
        Due.due("fault(0) ahead of any bank", x.fault(0), 0);
        Due.due("fault(1) ahead of any bank", x.fault(1), -1);
        Due.due("fault(2)", x.fault(2), -1);
        Due.due("fault(-1)", x.fault(-1), -1);
        for (int set = -1; set <= 4; set++) {
            Due.due("leaves(" + set + ") of a new object", x.leaves(set), -1);
        }
        Due.due("flush of a new object", x.flush(), 0);
        Due.due("hottest of a new object", x.hottest(0, 0), -1);
        Due.due("undo of a new object", x.undo(), -1);
        Due.due("back of a new object", x.back(0), -1);
        Due.due("image of a new object", x.image(0), 0);
        Due.due("back of a new object", x.back(0), 0);
        Due.due("bank of an empty tape", x.bank(), 0);
        Due.due("boxes are empty then", x.back(0), -1);
    }

    private static void tape() {
        TexelBank x = new TexelBank();
        for (int k = 1; k <= 45; k++) {
            Due.due("feed " + k, x.feed(0, 0, 0, 0, 0), 20 * k);
        }
        Due.due("feed beyond 900", x.feed(0, 0, 0, 0, 0), -1);
        Due.due("about(9)", x.about(9), 900);
        Due.due("end(901)", x.end(901), -1);
        Due.due("end(-1)", x.end(-1), -1);
        Due.due("about(9)", x.about(9), 900);
        Due.due("end(881)", x.end(881), 881);
        Due.due("feed beyond 900", x.feed(0, 0, 0, 0, 0), -1);
        Due.due("about(9)", x.about(9), 881);
        Due.due("end(880)", x.end(880), 880);
        Due.due("feed up to 900", x.feed(0, 0, 0, 0, 0), 900);
        Due.due("end(0)", x.end(0), 0);
        // "thing a;" and then what end() cuts off; of each number the highest byte comes first
        Due.due("feed", x.feed(0x7468696e, 0x6720613b, 0x3f3f3f3f, -1, -1), 20);
        Due.due("end(8)", x.end(8), 8);
        Due.due("bank", x.bank(), 1);
        Due.due("kind(0)", x.kind(0), 10);
        Due.due("tape is empty after bank()", x.about(9), 0);
        Due.tape(x, "?");
        Due.due("bank", x.bank(), -1);
        Due.due("tape is empty after a fault", x.about(9), 0);
        Due.due("end(1)", x.end(1), -1);
    }

    private static void tokens() {
        Texts.good(0, "");
        Texts.good(0, " \n ");
        Texts.good(1, "\nthing\na\n;\n");
        Texts.good(1, "store b ints1;");
        Texts.good(1, "store b ints 0001;");
        Texts.faultAt(1, "!?");
        Texts.faultAt(1, "thing a;!Thing b;");
        Texts.faultAt(1, "thing a;!\tthing b;");
        Texts.faultAt(1, "thing !\u0000;");
        Texts.faultAt(1, "thing !\u00e9;");
        Texts.faultAt(1, "!abcdefghi");
        Texts.faultAt(2, "!abcdefgh");
        Texts.faultAt(1, "store b ints !12345;");
        Texts.faultAt(1, "store b ints !1a;");
        Texts.faultAt(1, "store b ints!1a;");
        Texts.faultAt(2, "store b ints 1 !a;");
        Texts.faultAt(1, "!1a");
        Texts.faultAt(2, "!1");
        Texts.faultAt(2, "!;");
        Texts.faultAt(2, "thing a;!;");
    }

    /** Each word that stands for itself behind the first of its line, with all the others in its place. */
    private static void otherWords() {
        String[] lines = {
            "cache 1 !by 1 of 1;", "cache 1 by 1 !of 1;", S + "texture p !on s at 0 size 1 by 1 levels 1 rows repeat;",
            S + "texture p on s !at 0 size 1 by 1 levels 1 rows repeat;", S + "texture p on s at 0 !size 1 by 1 levels 1 rows repeat;",
            S + "texture p on s at 0 size 1 !by 1 levels 1 rows repeat;", S + "texture p on s at 0 size 1 by 1 !levels 1 rows repeat;",
        };
        for (String line : lines) {
            int from = line.indexOf('!') + 1;
            int to = line.indexOf(' ', from);
            for (String word : Texts.WORDS) {
                if (!word.equals(line.substring(from, to))) {
                    Texts.faultAt(2, line.substring(0, from) + word + line.substring(to));
                }
            }
        }
    }

    private static void caches() {
        Texts.good(0, "cache 1 by 1 of 1;");
        Texts.good(0, "cache 8 by 4 of 16;");
        Texts.good(1, "thing a; cache 2 by 3 of 8;");
        Texts.faultAt(4, "cache !3");
        Texts.faultAt(4, "cache !0 by 1 of 1;");
        Texts.faultAt(4, "cache !16 by 1 of 1;");
        Texts.faultAt(4, "cache 1 by !5");
        Texts.faultAt(4, "cache 1 by !0 of 1;");
        Texts.faultAt(4, "cache 1 by 1 of !3");
        Texts.faultAt(4, "cache 1 by 1 of !32;");
        Texts.faultAt(2, "cache !by 1 of 1;");
        Texts.faultAt(2, "cache 1 !of 1 by 1;");
        Texts.faultAt(2, "cache 1 by 1 !by 1;");
        Texts.faultAt(2, "cache 1 by 1 of 1!");
        Texts.faultAt(2, "cache 1 by 1 of 1 !");
        Texts.faultAt(2, "cache 1 by 1 of 1;!cache 1 by 1 of 1;");
        TexelBank x = Due.told("cache 8 by 3 of 16;");
        Due.due("about(2)", x.about(2), 8);
        Due.due("about(3)", x.about(3), 3);
        Due.due("about(4)", x.about(4), 16);
    }

    private static void stores() {
        Texts.good(1, "store abcdefg ints 1;");
        // kind, order, wrap, line stand for other words in the grammar, so they are NAMES
        Texts.good(4, "store kind ints 1;thing order;none wrap;thing line;");
        Texts.faultAt(2, "store !abcdefgh ints 1;");
        Texts.faultAt(1, "store !abcdefghi ints 1;");
        for (String word : Texts.WORDS) {
            Texts.faultAt(2, "thing !" + word + ";");
        }
        Texts.faultAt(2, "store b !kind ints 1;");
        Texts.faultAt(2, "store b !rows 1;");
        Texts.faultAt(2, "store b !1;");
        Texts.faultAt(2, "store b ints !;");
        Texts.faultAt(4, "store b ints !0;");
        Texts.faultAt(4, "store b ints !401;");
        Texts.good(1, "store b ints 400;");
        Texts.faultAt(2, "store b ints 1!");
        Texts.faultAt(3, "store b ints 1;thing !b;");
        Texts.faultAt(3, "none t;store !t ints 1;");
        Texts.faultAt(2, "thing a !ints 1;");
        Texts.good(6, "thing a;thing b;thing c;thing d;thing e;thing f;");
        Texts.faultAt(2, "thing a;thing b;thing c;thing d;thing e;thing f;!thing g;");
        Texts.faultAt(2, "thing a;thing b;none c;store d bits 1;thing e;thing f;!none g;");
        Texts.faultAt(2, "thing a;thing b;none c;store d bits 1;thing e;thing f;!store g ints 1;");
        TexelBank x = Due.told("store a bits 1;store b bytes 2;store c chars 3;store d shorts 4;store e ints 5;store f longs 6;");
        for (int store = 0; store < 6; store++) {
            Due.due("kind(" + store + ")", x.kind(store), store);
            Due.due("length(" + store + ")", x.length(store), store + 1);
        }
        x = Due.told("store g floats 7;store h doubles 8;store i texels 9;store j words 10;thing k;none l;");
        for (int store = 0; store < 6; store++) {
            Due.due("kind(" + store + ")", x.kind(store), store + 6);
        }
    }

    private static void textures() {
        String one = " size 1 by 1 levels 1 rows repeat;";
        Texts.good(1, S + "texture p on s at 399" + one);
        Texts.faultAt(4, S + "texture p on s at !400" + one);
        Texts.faultAt(3, S + "texture !s on s at 0" + one);
        Texts.faultAt(3, S + "texture p on !p at 0" + one);
        Texts.faultAt(3, S + "texture p on s at 0" + one + "texture q on !p at 0" + one);
        Texts.faultAt(3, S + "texture p on s at 0" + one + "texture !p on s at 0" + one);
        Texts.faultAt(3, S + "texture p on s at 0" + one + "thing !p;");
        Texts.faultAt(3, "texture p on !s at 0" + one);
        for (String kind : "bits texels words".split(" ")) {
            Texts.faultAt(3, "store s " + kind + " 9;texture p on !s at 0" + one);
        }
        Texts.faultAt(3, "thing s;texture p on !s at 0" + one);
        Texts.faultAt(3, "none s;texture p on !s at 0" + one);
        for (String kind : "bytes chars shorts ints longs floats doubles".split(" ")) {
            Texts.good(1, "store s " + kind + " 9;texture p on s at 0" + one);
        }
        Texts.faultAt(2, S + "texture p on !at at 0" + one);
        Texts.faultAt(2, S + "texture p !at 0" + one);
        Texts.faultAt(2, S + "texture p on s !size 1");
        Texts.faultAt(2, S + "texture p on s at 0 size 1 by 1 levels 1 !repeat rows;");
        Texts.faultAt(2, S + "texture p on s at 0 size 1 by 1 levels 1 rows !rows;");
        Texts.faultAt(2, S + "texture p on s at 0 size 1 by 1 levels 1 rows repeat!");
        Texts.faultAt(4, S + "texture p on s at 0 size !3 by 1 levels 1 rows repeat;");
        Texts.faultAt(4, S + "texture p on s at 0 size 1 by !32 levels 1 rows repeat;");
        Texts.faultAt(4, S + "texture p on s at 0 size 1 by !0 levels 1 rows repeat;");
        Texts.faultAt(4, S + "texture p on s at 0 size 4 by 1 levels !0 rows repeat;");
        Texts.faultAt(4, S + "texture p on s at 0 size 4 by 1 levels !4 rows repeat;");
        Texts.faultAt(4, S + "texture p on s at 0 size 1 by 1 levels !2 rows repeat;");
        Texts.good(1, S + "texture p on s at 0 size 4 by 1 levels 3 rows repeat;");
        Texts.good(1, S + "texture p on s at 59 size 16 by 16 levels 5 rows repeat;");
        Texts.faultAt(5, S + "texture p on s at 60 size 16 by 16 levels !5 rows repeat;");
        Texts.faultAt(4, S + "texture p on s at 60 size 16 by 16 levels !6 rows repeat;");
        Texts.faultAt(5, "store s ints 4;texture p on s at 0 size 2 by 2 levels !2 rows repeat;");
        Texts.faultAt(4, "store s ints 4;texture p on s at 5 size 1 by 1 levels !0 rows repeat;");
        Texts.faultAt(5, "store s ints 4;texture p on s at 5 size 1 by 1 levels !1 rows repeat;");
        Texts.good(1, "store s ints 4;texture p on s at 0 size 2 by 2 levels 1 rows repeat;");
        String four = "";
        for (String name : "p q r u".split(" ")) {
            four += "texture " + name + " on s at 0" + one;
        }
        Texts.good(1, S + four);
        Texts.faultAt(2, S + four + "!texture v on s at 0" + one);
    }

    private static void fills() {
        String p = S + "texture p on s at 0 size 2 by 2 levels 2 rows repeat;";
        Texts.good(1, p + "fill p 0 9999 1;");
        Texts.faultAt(3, p + "fill !s 0 0 0;");
        Texts.faultAt(3, p + "fill !q 0 0 0;");
        Texts.faultAt(3, S + "fill !p 0 0 0;");
        Texts.faultAt(2, p + "fill !fill 0 0 0;");
        Texts.faultAt(1, p + "fill p 0 !10000 0;");
        Texts.faultAt(2, p + "fill p 0 0!;");
        Texts.faultAt(2, p + "fill p 0 0 0 !0;");
        TexelBank x = Due.told(p + "fill p 9 9 9;fill p 1 10 100;");
        int[] due = {100, 101, 110, 111, 105};
        for (int place = 0; place < due.length; place++) {
            Due.due("peek(0, 0, " + place + ")", x.peek(0, 0, place), due[place]);
        }
        Due.due("fills of a text are no acts", x.about(8), 0);
        // the fills come in their order, and each makes its own levels alone
        x = Due.told(p + "texture q on s at 1 size 1 by 1 levels 1 rows repeat;fill p 1 10 100;fill q 0 0 7;");
        Due.due("place 1 is of the later fill", x.peek(0, 0, 1), 7);
        Due.due("level 1 is of the earlier one", x.peek(0, 0, 4), 105);
        int most = (900 - S.length() - p.length()) / 12;
        String many = "";
        for (int k = 1; k <= most; k++) {
            many += k == most ? "fill p0 0 7;" : "fill p0 0 0;";
        }
        x = Due.told(p + many);
        Due.due("the last of many fills", x.peek(0, 0, 3), 7);
    }

    private static void faultLeavesAll() {
        TexelBank x = Due.told("cache 1 by 2 of 4;" + S + "texture p on s at 0 size 2 by 2 levels 2 rows repeat;fill p 1 10 100;");
        x.image(1);
        x.poke(0, 5, 0, 5);
        x.fetch(0, 0, 0, 0);
        Due.due("bank", Due.tell(x, "cache 8 by 1 of 1;store s bits 3;fill x 0 0 0;"), -1);
        int[] due = {1, 1, 1, 2, 4, 0, 1, 1, 1, 0, 400};
        for (int what = 0; what < due.length; what++) {
            Due.due("about(" + what + ") after a fault", x.about(what), due[what]);
        }
        Due.due("kind(0) after a fault", x.kind(0), 4);
        Due.due("peek after a fault", x.peek(0, 0, 0), 5);
        Due.due("texture after a fault", x.texture(0, 2), 2);
        Due.due("undo after a fault", x.undo(), 0);
        Due.due("back after a fault", x.back(1), 527);
        Due.due("bank", Due.tell(x, "thing a;"), 1);
        Due.due("fault(0) of the latest bank", x.fault(0), 0);
        Due.due("fault(1) of the latest bank", x.fault(1), -1);
    }

    private static void newBankClearsAll() {
        String text = "cache 1 by 2 of 4;" + S + "texture p on s at 0 size 2 by 2 levels 2 rows repeat;";
        TexelBank x = Due.told(text);
        x.fill(0, 1, 1, 1);
        x.image(0);
        x.fetch(0, 0, 0, 0);
        x.fetch(0, 0, 1, 0);
        Due.due("bank", Due.tell(x, S + "texture p on s at 0 size 2 by 2 levels 2 rows repeat;"), 1);
        int[] due = {1, 1, 4, 2, 4, 0, 0, 0, 0, 0, 400};
        for (int what = 0; what < due.length; what++) {
            Due.due("about(" + what + ") of the new bank", x.about(what), due[what]);
        }
        Due.due("total of the new bank", x.total(0), 0);
        Due.due("undo in the new bank", x.undo(), -1);
        Due.due("back in the new bank", x.back(0), -1);
        Due.due("hottest in the new bank", x.hottest(0, 0), -1);
        String plain = "store s shorts 400;texture q on s at 50 size 2 by 2 levels 2 curves mirror;";
        String filled = plain + "fill q 9 9 9;fill q 8 8 8;";
        String[] texts = {filled, filled + "?", plain, filled, plain, filled + "?", filled + "?", plain};
        for (String each : texts) {
            boolean good = each.indexOf('?') < 0;
            Due.due("bank", Due.tell(x, each), good ? 1 : -1);
            Due.dueTrue("nothing is left of an earlier text", !each.equals(plain) || x.total(0) == 0);
        }
        Due.due("bank", Due.tell(x, ""), 0);
        Due.due("kind(0) of an empty bank", x.kind(0), -1);
        Due.due("texture(0, 0) of an empty bank", x.texture(0, 0), -1);
    }

    private static void about() {
        TexelBank x = Due.told("store a bits 3;thing b;none c;store d words 4;" + S + "texture p on s at 0 size 4 by 4 levels 1 rows repeat;");
        Due.due("about(0)", x.about(0), 5);
        Due.due("about(1)", x.about(1), 1);
        Due.due("about(10)", x.about(10), 407);
        Due.due("about(11)", x.about(11), -1);
        Due.due("about(-1)", x.about(-1), -1);
        x.poke(0, 1, 0, 1);
        Due.due("about(8)", x.about(8), 1);
        x.feed(0, 0, 0, 0, 0);
        Due.due("about(9)", x.about(9), 20);
        x.fetch(0, 0, 0, 0);
        x.fetch(0, 0, 1, 0);
        x.fetch(0, 0, 2, 0);
        x.fetch(0, 0, 0, 1);
        Due.due("about(5)", x.about(5), 2);
        Due.due("about(6)", x.about(6), 2);
        Due.due("about(7)", x.about(7), 2);
    }
}
