import java.util.Arrays;
import java.util.List;
import java.util.function.IntPredicate;

/** The edges that the document names in the text of a BANK, and in promises 1 to 5 and 47. */
public final class TextEdgesTest {
    private static final String TERMS = Document.TERMS;
    private static final String S = "store s ints 400;";
    private static final String END = " at 0 size 1 by 1 levels 1 rows repeat;";
    private static final String[] KINDS = {"bits", "bytes", "chars", "shorts", "ints", "longs", "floats", "doubles", "texels", "words"};
    // What may stand where a line begins: its first word, or the end.
    private static final List<String> LINES = List.of("cache", "store", "thing", "none", "texture", "fill", "");
    private static final int[] FAR = {-1, Integer.MIN_VALUE, Integer.MAX_VALUE};

    public static void main(String[] args) {
        emptyAndFull();
        words();
        numbers();
        blanks();
        longest();
        lettersBehind();
        names();
        caches();
        stores();
        textures();
        levels();
        fills();
        firstFault();
        whatCannotStand();
        toldNames();
        beyond();
        newObject();
        feeds();
        ends();
        banks();
        cachesAgain();
        faults();
        about();
        Due.close();
    }

    private static String blanks(int n) {
        return " ".repeat(n);
    }

    private static void emptyAndFull() {
        Due.sentence(TERMS, "A BANK is a text of at most 900 bytes (empty at first)");
        Texts.good(0, "");
        Texts.good(1, "thing a" + blanks(892) + ";");
        Texts.good(1, blanks(892) + "thing a;");
        Texts.fault("thing a" + blanks(893), 2, 900);
        Texts.fault("thing a;" + blanks(891) + "?", 1, 899);
        Texts.fault("thing a;" + blanks(891) + ";", 2, 899);
        Texts.good(1, "thing a;" + blanks(892));
    }

    private static void words() {
        Due.sentence(TERMS, "words (a .. z, 8 at most)");
        Texts.good(1, "thing a;");
        Texts.good(1, "thing z;");
        Texts.good(1, "thing abcxyz;");
        Texts.faultAt(2, "!abcdefgh");
        Texts.faultAt(1, "!abcdefghi");
        Texts.faultAt(1, "!doublesss");
        Texts.faultAt(2, "store a !doubless 1;");
        Texts.faultAt(1, "store a !doublesss 1;");
        Due.sentence(TERMS, "the sign ;");
        for (int sign = 0; sign < 256; sign++) {
            boolean blank = sign == 32 || sign == 10;
            boolean token = sign == ';' || sign >= 'a' && sign <= 'z' || sign >= '0' && sign <= '9';
            if (blank) {
                Texts.good(1, "thing a;" + (char) sign);
            } else {
                Texts.fault("thing a;" + (char) sign, token ? 2 : 1, 8);
            }
        }
    }

    private static void numbers() {
        Due.sentence(TERMS, "N (1 to 4 digits)");
        Texts.good(1, "store a ints 7;");
        Texts.good(1, "store a ints 07;");
        Texts.good(1, "store a ints 007;");
        Texts.good(1, "store a ints 0007;");
        Texts.faultAt(1, "store a ints !00007;");
        Texts.faultAt(1, "store a ints !12345678901234567890;");
        Texts.faultAt(4, "store a ints !9999;");
        Texts.faultAt(2, "store a ints !;");
        for (int digit = 0; digit <= 9; digit++) {
            TexelBank x = Due.told("store a ints 1" + digit + digit + ";");
            Due.due("digits", x.length(0), 100 + 11 * digit);
        }
    }

    private static void blanks() {
        Due.sentence(TERMS, "Blanks (32, 10) part them or not");
        Texts.good(1, "store b ints1;texture p on b at0 size1 by1 levels1 rows repeat;fill p0 0 0;");
        Texts.good(1, "\n store\n\nb  ints \n1\n;\n");
        Texts.good(1, "cache1 by1 of1;thing a;");
        Texts.good(2, "thing a;thing b;");
        for (int sign = 0; sign <= 32; sign++) {
            if (sign != 32 && sign != 10) {
                Texts.fault("thing" + (char) sign + "a;", 1, 5);
            }
        }
        Texts.fault("thing" + (char) 160 + "a;", 1, 5);
        Texts.fault("thing" + (char) 255 + "a;", 1, 5);
    }

    private static void longest() {
        Due.sentence(TERMS, "each is as long as can be");
        Texts.faultAt(2, "!thinga;");
        Texts.faultAt(2, "!storesto b ints 1;");
        Texts.faultAt(2, "thing ab !c;");
        Texts.faultAt(2, "store b ints 1 !2;");
        Due.due("two digits are one number", Due.told("store b ints 12;").length(0), 12);
    }

    private static void lettersBehind() {
        Due.sentence(TERMS, "no letter directly behind an N");
        for (int sign = 0; sign < 256; sign++) {
            String text = "store b ints 1" + (char) sign + ";";
            boolean letter = sign >= 'a' && sign <= 'z';
            if (sign == 32 || sign == 10 || sign >= '0' && sign <= '9') {
                Texts.good(1, text);
            } else if (sign == ';') {
                Texts.fault(text, 2, 15);
            } else {
                Texts.fault(text, 1, letter ? 13 : 14);
            }
        }
        Texts.faultAt(2, "store b ints 1 !a;");
        Texts.faultAt(2, "store b ints 1\n!a;");
        Due.sentence(TERMS, "(what is none of these, a longer word, more digits, a number with a letter behind it: no TOKEN, at its "
            + "first byte)");
        Texts.faultAt(1, "thing a; !?");
        Texts.faultAt(1, "thing !aaaaaaaaa;");
        Texts.faultAt(1, "thing !" + "z".repeat(400) + ";");
        Texts.faultAt(1, "!" + "z".repeat(900));
        Texts.faultAt(1, "thing a;!" + "1".repeat(892));
        Texts.faultAt(1, "store b ints !11111;");
        Texts.faultAt(1, "store b ints !1111a;");
        Texts.faultAt(1, "store b ints !11111a;");
        Texts.faultAt(1, "thing !1a;");
        Texts.faultAt(1, "!7thing a;");
    }

    private static void names() {
        Due.sentence(TERMS, "Words that stand for themselves here are no NAMES");
        for (String word : Texts.WORDS) {
            Texts.faultAt(2, "store !" + word + " ints 1;");
            Texts.faultAt(2, "thing !" + word + ";");
            Texts.faultAt(2, "none !" + word + ";");
            Texts.faultAt(2, S + "texture !" + word + " on s" + END);
            Texts.faultAt(2, S + "texture p on !" + word + END);
            Texts.faultAt(2, S + "texture p on s" + END + "fill !" + word + " 0 0 0;");
            Texts.good(1, "thing " + word.substring(1) + "q;");
        }
        Due.sentence(TERMS, "a NAME has 7 letters at most");
        for (int letters = 1; letters <= 9; letters++) {
            String name = "q".repeat(letters);
            String[] texts = {"store !" + name + " ints 1;", "thing !" + name + ";", "none !" + name + ";",
                "store r ints 1;texture !" + name + " on r" + END};
            for (String text : texts) {
                if (letters <= 7) {
                    Texts.good(1, text.replace("!", ""));
                } else {
                    Texts.faultAt(letters == 8 ? 2 : 1, text);
                }
            }
            Texts.faultAt(letters <= 7 ? 3 : letters == 8 ? 2 : 1, S + "texture p on !" + name + END);
            Texts.faultAt(letters <= 7 ? 3 : letters == 8 ? 2 : 1, S + "texture p on s" + END + "fill !" + name + " 0 0 0;");
        }
    }

    /** A number at the sign # of a text, whichever it is: without a FAULT, or with FAULT 4 there. */
    private static void numbersAt(String text, IntPredicate can) {
        int place = text.indexOf('#');
        for (int k = 0; k < 10000; k += k < 48 || k > 380 && k < 420 || k >= 9990 ? 1 : k < 380 ? 37 : 137) {
            String told = text.replace("#", Integer.toString(k));
            if (can.test(k)) {
                TexelBank x = new TexelBank();
                Due.dueTrue("bank of " + told, Due.tell(x, told) >= 0);
            } else {
                Texts.fault(told, 4, place);
            }
        }
    }

    private static IntPredicate oneOf(Integer... numbers) {
        return k -> List.of(numbers).contains(k);
    }

    private static void caches() {
        Due.sentence(TERMS, "cache, once");
        Texts.faultAt(2, "cache 1 by 1 of 1;!cache 1 by 1 of 1;");
        Texts.faultAt(2, "cache 1 by 1 of 1;thing a;!cache 3 by 9 of 7;");
        Texts.good(1, "thing a;cache 1 by 1 of 1;");
        Due.sentence(TERMS, "SETS (1, 2, 4, 8; 4 if not told)");
        numbersAt("cache # by 1 of 1;", oneOf(1, 2, 4, 8));
        Due.due("4 if not told", Due.told("thing a;").about(2), 4);
        Due.sentence(TERMS, "WAYS (1 .. 4; 2)");
        numbersAt("cache 1 by # of 1;", k -> k >= 1 && k <= 4);
        Due.due("2 if not told", Due.told("thing a;").about(3), 2);
        Due.sentence(TERMS, "places a LINE (1, 2, 4, 8, 16; 4)");
        numbersAt("cache 1 by 1 of #;", oneOf(1, 2, 4, 8, 16));
        Due.due("4 if not told", Due.told("thing a;").about(4), 4);
    }

    private static void stores() {
        Due.sentence(TERMS, "STORES, 6 at most, numbered as told");
        String[] lines = {"store a bits 3;", "thing b;", "none c;", "store d words 400;", "store e doubles 1;", "thing f;"};
        String text = "";
        for (int k = 0; k < 6; k++) {
            text += lines[k];
            Texts.good(k + 1, text);
        }
        TexelBank x = Due.told(text);
        int[] kinds = {0, 10, 11, 9, 7, 10};
        for (int k = 0; k < 6; k++) {
            Due.due("kind(" + k + ")", x.kind(k), kinds[k]);
        }
        Texts.faultAt(2, text + "!store g ints 1;");
        Texts.faultAt(2, text + "!thing g;");
        Texts.faultAt(2, text + "!none a;");
        Due.sentence(TERMS, "of a KIND (0 .. 9, as told above)");
        for (int kind = 0; kind < 10; kind++) {
            Due.due("kind of " + KINDS[kind], Due.told("store a " + KINDS[kind] + " 1;").kind(0), kind);
        }
        Due.sentence(TERMS, "1 .. 400 PLACES");
        numbersAt("store a bytes #;", k -> k >= 1 && k <= 400);
        numbersAt("store a words #;", k -> k >= 1 && k <= 400);
        Due.sentence(TERMS, "(each 0 at first: bits not, texels and words without any)");
        for (int kind = 0; kind < 10; kind++) {
            x = Due.told("store a " + KINDS[kind] + " 400;");
            Due.due("the first of " + KINDS[kind], x.peek(0, 0, 0), kind < 8 ? 0 : -1);
            Due.due("the last of " + KINDS[kind], x.peek(0, 0, 399), kind < 8 ? 0 : -1);
            Due.due("all of " + KINDS[kind], x.total(0), kind < 8 ? 0 : -400);
        }
        Due.sentence(TERMS, "a thing (KIND 10), which is no row; none (11), of which there is nothing");
        x = Due.told("thing a;none b;");
        Due.due("kind of a thing", x.kind(0), 10);
        Due.due("kind of none", x.kind(1), 11);
        Due.due("length of a thing", x.length(0), -2);
        Due.due("length of none", x.length(1), -3);
    }

    private static void textures() {
        Due.sentence(TERMS, "TEXTURES, 4 at most, numbered as told");
        String text = S;
        for (int k = 0; k < 4; k++) {
            text += "texture " + (char) ('a' + k) + " on s at " + (9 + k) + " size 1 by 1 levels 1 rows repeat;";
            TexelBank x = Due.told(text);
            Due.due("textures", x.about(1), k + 1);
            Due.due("the place of the last", x.texture(k, 1), 9 + k);
        }
        Texts.faultAt(2, text + "!texture e on s" + END);
        Texts.faultAt(2, text + "!texture a on x at 400");
        Due.sentence(TERMS, "on a STORE told ahead, of KIND 1 to 7");
        Texts.faultAt(3, "texture p on !s" + END + S);
        for (int kind = 0; kind < 10; kind++) {
            String told = "store a " + KINDS[kind] + " 1;texture p on !a" + END;
            if (kind >= 1 && kind <= 7) {
                Texts.good(1, told.replace("!", ""));
            } else {
                Texts.faultAt(3, told);
            }
        }
        Texts.faultAt(3, "thing a;texture p on !a" + END);
        Texts.faultAt(3, "none a;texture p on !a" + END);
        Due.sentence(TERMS, "from a PLACE on (0 .. 399)");
        numbersAt(S + "texture p on s at # size 1 by 1 levels 1 rows repeat;", k -> k <= 399);
        Due.sentence(TERMS, "WIDTH by HEIGHT (1, 2, 4, 8, 16 each)");
        numbersAt(S + "texture p on s at 0 size # by 1 levels 1 rows repeat;", oneOf(1, 2, 4, 8, 16));
        numbersAt(S + "texture p on s at 0 size 1 by # levels 1 rows repeat;", oneOf(1, 2, 4, 8, 16));
    }

    private static void levels() {
        Due.sentence(TERMS, "LEVELS (1 up to 1 more than the greater one can be halved)");
        int[] sides = {1, 2, 4, 8, 16};
        for (int width = 0; width < 5; width++) {
            for (int height = 0; height < 5; height++) {
                int most = 1 + Math.max(width, height);
                String text = S + "texture p on s at 0 size " + sides[width] + " by " + sides[height] + " levels !";
                for (int levels = 1; levels <= most; levels++) {
                    TexelBank x = Due.told(text.replace("!", "") + levels + " rows repeat;");
                    Due.due("levels of " + text, x.texture(0, 4), levels);
                    Due.due("wide at the last", x.level(0, levels - 1, 0), Math.max(1, sides[width] >> levels - 1));
                    Due.due("high at the last", x.level(0, levels - 1, 1), Math.max(1, sides[height] >> levels - 1));
                }
                Texts.faultAt(4, text + "0 rows repeat;");
                Texts.faultAt(4, text + (most + 1) + " rows repeat;");
                Texts.faultAt(4, text + "9999 rows repeat;");
            }
        }
    }

    private static void fills() {
        String p = S + "texture p on s at 0 size 1 by 1 levels 1 rows repeat;";
        Due.sentence(TERMS, "fill: a TEXTURE told ahead, three numbers (0 .. 9,999): as by fill()");
        Texts.faultAt(3, S + "fill !p 0 0 0;" + p.substring(S.length()));
        numbersAt(p + "fill p # 0 0;", k -> true);
        numbersAt(p + "fill p 0 # 0;", k -> true);
        numbersAt(p + "fill p 0 0 #;", k -> true);
        Due.due("the least", Due.told(p + "fill p 9999 9999 0;").peek(0, 0, 0), 0);
        Due.due("the most", Due.told(p + "fill p 0 0 9999;").peek(0, 0, 0), 9999);
        Due.due("cut to its kind", Due.told(p.replace("ints", "bytes") + "fill p 0 0 9999;").peek(0, 0, 0), 15);
        TexelBank x = Due.told(S + "texture p on s at 0 size 16 by 16 levels 5 curves mirror;fill p 9999 9999 9999;");
        Due.due("the greatest of all", x.texel(0, 0, 15, 15), 31 * 9999);
        Due.due("all is made", x.stale(0), 0);
        Due.due("it is no act", x.about(8), 0);
    }

    private static void firstFault() {
        Due.sentence(TERMS, "FAULTS, the first by its place (bytes from 0; the end: the text's length)");
        Texts.faultAt(1, "!?");
        Texts.faultAt(2, "!a ?");
        Texts.faultAt(4, "cache !3 by 9 of 7 ?");
        Texts.faultAt(3, "thing a;none !a;cache 3 ?");
        Texts.faultAt(5, "store s ints 3;texture p on s at 0 size 2 by 2 levels !1 ?");
        Texts.faultAt(4, "store s ints 3;texture p on s at !400 size 16 by 16 levels 9 ;");
        Texts.faultAt(2, "thing a!");
        Texts.faultAt(2, "thing a  \n !");
        Texts.faultAt(2, "thing!");
        Texts.faultAt(2, "cache 1 by!");
        Due.sentence(TERMS, "at one place the least: 1 no TOKEN");
        Texts.faultAt(1, "thing !aaaaaaaaa;");
        Texts.faultAt(1, "store b ints !00000;");
        Texts.faultAt(1, "cache !1a by 1 of 1;");
        Texts.faultAt(2, S + "texture p on !aaaaaaaa" + END);
        Texts.faultAt(2, S + "thing b;thing c;thing d;thing e;thing f;!thing s;");
        Texts.faultAt(4, "store s ints 3;texture p on s at 0 size 2 by 2 levels !3 rows repeat;");
        Texts.faultAt(4, "store s ints 3;texture p on s at 0 size 2 by 2 levels !0 rows repeat;");
        Texts.faultAt(1, "store s ints 3;texture p on s at 0 size 2 by 2 levels !1a rows repeat;");
        Texts.faultAt(2, "store s ints 3;texture p on s at 0 size 2 by 2 levels !rows repeat;");
    }

    private static boolean mayStand(String pattern, String word, boolean first) {
        return switch (pattern) {
            case "N" -> word.equals("1");
            case "NAME" -> word.equals("zz");
            case "KIND" -> Arrays.asList(Texts.WORDS).subList(12, 22).contains(word);
            case "ORDER" -> Arrays.asList(Texts.WORDS).subList(22, 25).contains(word);
            case "WRAP" -> Arrays.asList(Texts.WORDS).subList(25, 28).contains(word);
            default -> pattern.equals(word) || first && LINES.contains(word);
        };
    }

    /** Each TOKEN of each line in turn is left out, with the text behind it, or is another one that can't stand there. */
    private static void whatCannotStand() {
        Due.sentence(TERMS, "2 one that can't stand there");
        String ahead = S + "texture p on s" + END;
        String[][] lines = {
            {"cache N by N of N ;", "cache 1 by 1 of 1 ;"}, {"store NAME KIND N ;", "store a ints 1 ;"}, {"thing NAME ;", "thing a ;"},
            {"none NAME ;", "none a ;"}, {"fill NAME N N N ;", "fill p 1 1 1 ;"},
            {"texture NAME on NAME at N size N by N levels N ORDER WRAP ;", "texture q on s at 1 size 1 by 1 levels 1 tiles clamp ;"},
        };
        String[] others = Arrays.copyOf(Texts.WORDS, Texts.WORDS.length + 5);
        System.arraycopy(new String[] {"zz", "1", ";", "", "kind"}, 0, others, Texts.WORDS.length, 5);
        for (String[] line : lines) {
            String[] patterns = line[0].split(" ");
            String[] tokens = line[1].split(" ");
            for (int at = 0; at < tokens.length; at++) {
                String before = ahead + String.join(" ", Arrays.copyOf(tokens, at)) + " ";
                String behind = " " + String.join(" ", Arrays.copyOfRange(tokens, at + 1, tokens.length));
                for (String other : others) {
                    if (!mayStand(patterns[at], other, at == 0) && !(patterns[at].equals("NAME") && other.equals("kind"))) {
                        Texts.fault(before + other + (other.isEmpty() ? "" : behind), 2, before.length());
                    }
                }
            }
        }
        Due.sentence(TERMS, "(a cache a second time, a STORE, a TEXTURE too many: at that word; a word of 8 letters as a NAME)");
        Texts.faultAt(2, "cache 8 by 4 of 16;!cache 8 by 4 of 16;");
        Texts.faultAt(2, "thing a;thing b;thing c;thing d;thing e;thing f;!store");
        Texts.faultAt(2, S + "texture p on s" + END + "texture q on s" + END + "texture r on s" + END + "texture t on s" + END + "!texture");
        Texts.faultAt(2, "thing !aaaaaaaa;");
    }

    private static void toldNames() {
        Due.sentence(TERMS, "3 a NAME told already, a NAME of no STORE (behind on), of none of KIND 1 to 7, of no TEXTURE (behind fill)");
        String[] lines = {"store @ ints 1;", "thing @;", "none @;", "texture @ on s" + END};
        for (int one = 0; one < 4; one++) {
            for (int other = 0; other < 4; other++) {
                int stores = 1 + (one < 3 ? 1 : 0) + (other < 3 ? 1 : 0);
                Texts.faultAt(3, S + lines[one].replace("@", "b") + lines[other].replace("@", "!b"));
                Texts.good(stores, S + lines[one].replace("@", "b") + lines[other].replace("@", "c"));
            }
        }
        Texts.faultAt(3, S + "texture !s on s" + END);
        Texts.faultAt(3, S + "texture p on !z" + END);
        Texts.faultAt(3, S + "texture p on !p" + END);
        Texts.faultAt(3, S + "texture p on s" + END + "texture q on !p" + END);
        Texts.faultAt(3, "store s bits 1;texture p on !s" + END);
        Texts.faultAt(3, S + "fill !s 0 0 0;");
        Texts.faultAt(3, S + "texture p on s" + END + "fill !q 0 0 0;");
        Due.sentence(TERMS, "4 a number that can't be");
        Texts.faultAt(4, "store s ints !0000;");
        Texts.faultAt(4, "cache !0 by 1 of 1;");
    }

    private static void beyond() {
        Due.sentence(TERMS, "5 a TEXTURE that goes beyond its STORE (at the number behind levels)");
        int[][] needed = {{16, 16, 1, 256}, {16, 16, 5, 341}, {8, 8, 2, 80}, {1, 1, 1, 1}, {1, 16, 5, 31}, {16, 2, 3, 44}, {4, 4, 3, 21}};
        for (int[] size : needed) {
            String text = " size " + size[0] + " by " + size[1] + " levels !" + size[2] + " rows repeat;";
            Texts.good(1, "store s bytes " + size[3] + ";texture p on s at 0" + text.replace("!", ""));
            Texts.faultAt(5, "store s bytes " + size[3] + ";texture p on s at 1" + text);
            Texts.faultAt(5, "store s bytes " + size[3] + ";texture p on s at 399" + text);
            Texts.good(1, S + "texture p on s at " + (400 - size[3]) + text.replace("!", ""));
            if (size[3] > 1) {
                Texts.faultAt(5, "store s bytes " + (size[3] - 1) + ";texture p on s at 0" + text);
                Texts.faultAt(5, S + "texture p on s at " + (401 - size[3]) + text);
            }
        }
    }

    private static void newObject() {
        Due.sentence("Promise 1", "An empty BANK.");
        TexelBank x = new TexelBank();
        int[] due = {0, 0, 4, 2, 4, 0, 0, 0, 0, 0, 0};
        for (int what = 0; what < due.length; what++) {
            Due.due("about(" + what + ")", x.about(what), due[what]);
        }
        int strange = TexelBank.STRANGE;
        Due.due("kind", x.kind(0), -1);
        Due.due("length", x.length(0), -1);
        Due.due("peek", x.peek(0, 0, 0), strange);
        Due.due("poke", x.poke(0, 5, 0, 1), -1);
        Due.due("put", x.put(0, 0, 0, 0), -1);
        Due.due("convert", x.convert(0, 1), -1);
        Due.due("unlike", x.unlike(0, 0), -1);
        Due.due("total", x.total(0), 0);
        Due.due("find", x.find(0, 0, 0), -1);
        Due.due("loses", x.loses(0, 0), -1);
        Due.due("undo", x.undo(), -1);
        Due.due("texture", x.texture(0, 0), -1);
        Due.due("level", x.level(0, 0, 0), -1);
        Due.due("place", x.place(0, 0, 0, 0), -1);
        Due.due("at", x.at(0, 0, 0), -1);
        Due.due("texel", x.texel(0, 0, 0, 0), strange);
        Due.due("paint", x.paint(0, 0, 0, 0), -1);
        Due.due("fill", x.fill(0, 0, 0, 0), -1);
        Due.due("make", x.make(0), -1);
        Due.due("wrap", x.wrap(0, 0, 1), -1);
        Due.due("nearest", x.nearest(0, 0, 0, 0), strange);
        Due.due("smooth", x.smooth(0, 0, 0, 0), strange);
        Due.due("blend", x.blend(0, 0, 0, 0), strange);
        Due.due("axis", x.axis(3, 0, 2, 0, 0), 2);
        Due.due("filtered", x.filtered(0, 0, 0, 0, 0, 0, 0), strange);
        Due.due("unpack", x.unpack(7, 0, 0), 7);
        Due.due("pack", x.pack(0, 0, 0, 0), 0);
        Due.due("off", x.off(0, 0, 0, 0), -1);
        Due.due("fetch", x.fetch(0, 0, 0, 0), -1);
        Due.due("walk", x.walk(0, 0, 0), -1);
        Due.due("bestWalk", x.bestWalk(0, 0), -1);
        Due.due("walkAs", x.walkAs(0, 0, 0, 0), -1);
        Due.due("bestOrder", x.bestOrder(0, 0, 0), -1);
        Due.due("moved", x.moved(0, 0, 0, 0), -1);
        Due.due("area", x.area(0, 0, 0, 0, 1, 1), strange);
        Due.due("stale", x.stale(0), -1);
        Due.due("leaves", x.leaves(0), -1);
        Due.due("hottest", x.hottest(0, 0), -1);
        Due.due("flush", x.flush(), 0);
        Due.due("back", x.back(0), -1);
        Due.due("image", x.image(0), 0);
        Due.due("back of an empty one", x.back(0), 0);
        Due.due("end(0)", x.end(0), 0);
        Due.due("bank of an empty tape", x.bank(), 0);
    }

    private static void feeds() {
        Due.sentence("Promise 2", "Twenty bytes come behind those on the TAPE, of each number the highest first: how many there are");
        TexelBank x = new TexelBank();
        Due.due("feed", x.feed(0x7468696e, 0x67206120, 0x20202020, 0x20202020, 0x20202020), 20);
        Due.due("feed", x.feed(0x3b6e6f6e, 0x6520623b, 0x20202020, 0x0a0a0a0a, 0x20202020), 40);
        Due.due("bank", x.bank(), 2);
        Due.due("kind(1)", x.kind(1), 11);
        int[] ends = {0x80202020, 0xff202020, 0x20802020, 0x20208020, 0x20202080};
        int[] places = {0, 0, 1, 2, 3};
        for (int k = 0; k < 5; k++) {
            x.feed(ends[k], -1, -1, -1, -1);
            x.bank();
            Due.due("a byte above 127 is no token", x.fault(0), 1);
            Due.due("its place", x.fault(1), places[k]);
        }
        Due.sentence("Promise 2", "NONE, and nothing comes, if there would be more than 900");
        x = new TexelBank();
        for (int k = 1; k <= 45; k++) {
            Due.due("feed " + k, x.feed(0x20202020, 0x20202020, 0x20202020, 0x20202020, 0x20202020), 20 * k);
        }
        Due.due("feed beyond 900", x.feed(-1, -1, -1, -1, -1), -1);
        Due.due("nothing comes", x.about(9), 900);
        Due.due("end(881)", x.end(881), 881);
        Due.due("feed beyond 900", x.feed(-1, -1, -1, -1, -1), -1);
        Due.due("nothing comes", x.about(9), 881);
        Due.due("end(882)", x.end(882), -1);
        Due.due("end(880)", x.end(880), 880);
        Due.due("feed up to 900", x.feed(0x20202020, 0x20202020, 0x20202020, 0x20202020, 0x2020203b), 900);
        Due.due("bank", x.bank(), -1);
        Due.due("the last byte", x.fault(1), 899);
    }

    private static void ends() {
        Due.sentence("Promise 3", "The TAPE has its first n bytes: n");
        TexelBank x = new TexelBank();
        Due.due("end(0) of an empty tape", x.end(0), 0);
        x.feed(0x7468696e, 0x6720613b, 0x3f3f3f3f, 0x3f3f3f3f, 0x3f3f3f3f);
        Due.due("end of all", x.end(20), 20);
        Due.due("end(8)", x.end(8), 8);
        Due.due("about(9)", x.about(9), 8);
        Due.due("what is fed comes behind", x.feed(0x6e6f6e65, 0x20623b20, 0x20202020, 0x20202020, 0x20202020), 28);
        Due.due("bank", x.bank(), 2);
        Due.sentence("Promise 3", "NONE, doing nothing, if it has not so many, or n is below 0");
        x = new TexelBank();
        Due.due("end(1) of an empty tape", x.end(1), -1);
        x.feed(0, 0, 0, 0, 0);
        Due.due("end(21)", x.end(21), -1);
        for (int n : FAR) {
            Due.due("end(" + n + ")", x.end(n), -1);
        }
        Due.due("nothing is done", x.about(9), 20);
        Due.due("end(20)", x.end(20), 20);
    }

    private static void banks() {
        Due.sentence("Promise 4", "The TAPE (empty then, also at a FAULT) is the BANK");
        TexelBank x = new TexelBank();
        Due.due("bank", Due.tell(x, "thing a;"), 1);
        Due.due("the tape is empty", x.about(9), 0);
        Due.due("end(1)", x.end(1), -1);
        Due.due("feed", x.feed(0, 0, 0, 0, 0), 20);
        Due.due("bank", Due.tell(x, "thing a?"), -1);
        Due.due("the tape is empty", x.about(9), 0);
        Due.due("end(1)", x.end(1), -1);
        Due.due("bank of the empty tape", x.bank(), 0);
        Due.due("the bank is empty", x.kind(0), -1);
        Due.sentence("Promise 4", "(no ACTS are kept, the CACHE and BOXES are empty)");
        x = busy();
        Due.due("bank", Due.tell(x, S + "texture p on s" + END), 1);
        Due.due("acts", x.about(8), 0);
        Due.due("undo", x.undo(), -1);
        Due.due("lines held", x.about(7), 0);
        Due.due("flush", x.flush(), 0);
        Due.due("back(0)", x.back(0), -1);
        Due.due("back(1)", x.back(1), -1);
        Due.due("fetch", x.fetch(0, 0, 0, 0), 0);
        Due.sentence("Promise 4", "NONE: a FAULT (all else stays)");
        x = busy();
        Due.due("bank", Due.tell(x, "cache 8 by 4 of 1;store s bits 3;thing t;none u;thing ?"), -1);
        int[] due = {1, 1, 2, 1, 8, 1, 2, 2, 2, 0, 400};
        for (int what = 0; what < due.length; what++) {
            Due.due("about(" + what + ")", x.about(what), due[what]);
        }
        Due.due("leaves(0)", x.leaves(0), 2);
        Due.due("hottest(0, 0)", x.hottest(0, 0), 1);
        Due.due("fetch", x.fetch(0, 0, 0, 0), 1);
        Due.due("peek", x.peek(0, 0, 300), 6);
        Due.due("undo", x.undo(), 1);
        Due.due("peek", x.peek(0, 0, 300), 5);
        Due.due("back(0)", x.back(0), 5);
        Due.due("back(1)", x.back(1), 6);
    }

    private static TexelBank busy() {
        TexelBank x = Due.told("cache 2 by 1 of 8;" + S + "texture p on s at 8 size 16 by 1 levels 1 rows repeat;");
        x.poke(0, 5, 300, 5);
        x.image(0);
        x.poke(0, 5, 300, 6);
        x.image(1);
        x.fetch(0, 0, 8, 0);
        x.fetch(0, 0, 0, 0);
        x.fetch(0, 0, 1, 0);
        return x;
    }

    /** What a text tells is told anew by each text: nothing is left of earlier ones, be they good or not. */
    private static void cachesAgain() {
        Due.sentence(TERMS, "cache, once");
        TexelBank x = new TexelBank();
        String[] texts = {"cache 1 by 1 of 1;", "cache 2 by 2 of 2;thing a;?", "cache 8 by 4 of 16;", "cache 2 by 3 of 4;", "thing a;",
            "cache 1 by 1 of 1;cache 1 by 1 of 1;", "cache 1 by 4 of 8;", "", "cache 4 by 4 of 4;", "cache 2 by 2 of 2;"};
        int[][] due = {{1, 1, 1}, {1, 1, 1}, {8, 4, 16}, {2, 3, 4}, {4, 2, 4}, {4, 2, 4}, {1, 4, 8}, {4, 2, 4}, {4, 4, 4}, {2, 2, 2}};
        for (int k = 0; k < texts.length; k++) {
            Due.tell(x, texts[k]);
            for (int what = 2; what <= 4; what++) {
                Due.due("about(" + what + ") after " + texts[k], x.about(what), due[k][what - 2]);
            }
        }
    }

    private static void faults() {
        Due.sentence("Promise 5", "Of the latest bank() what 0: its FAULT (0: without; ahead of any, too), 1: its place (NONE)");
        TexelBank x = new TexelBank();
        Due.due("fault(0) ahead of any", x.fault(0), 0);
        Due.due("fault(1) ahead of any", x.fault(1), -1);
        String[] texts = {"thing a;?", "thing a;", "thing a;thing a;", "store a ints 401;", "", "thing a"};
        int[][] due = {{1, 8}, {0, -1}, {3, 14}, {4, 13}, {0, -1}, {2, 7}};
        for (int k = 0; k < texts.length; k++) {
            Due.tell(x, texts[k]);
            Due.due("fault(0) of " + texts[k], x.fault(0), due[k][0]);
            Due.due("fault(1) of " + texts[k], x.fault(1), due[k][1]);
        }
        Due.tape(x, "?");
        Due.due("what is on the tape is not told yet", x.fault(0), 2);
        Due.sentence("Promise 5", "NONE for another what");
        for (int what : new int[] {2, 3, -1, Integer.MIN_VALUE, Integer.MAX_VALUE}) {
            Due.due("fault(" + what + ")", x.fault(what), -1);
        }
    }

    private static void about() {
        Due.sentence("Promise 47", "NONE for another what");
        TexelBank x = busy();
        for (int what : new int[] {11, 12, -1, Integer.MIN_VALUE, Integer.MAX_VALUE}) {
            Due.due("about(" + what + ")", x.about(what), -1);
        }
        Due.sentence("Promise 47", "What 0: STORES, 1: TEXTURES, 2: SETS, 3: WAYS, 4: places a LINE, 5: HITS, 6: MISSES, 7: LINES held, "
            + "8: ACTS kept, 9: bytes on the TAPE, 10: PLACES of all STORES");
        x.feed(0, 0, 0, 0, 0);
        int[] due = {1, 1, 2, 1, 8, 1, 2, 2, 2, 20, 400};
        for (int what = 0; what < due.length; what++) {
            Due.due("about(" + what + ")", x.about(what), due[what]);
        }
        x = Due.told("store a bits 400;store b words 400;store c texels 400;store d longs 400;store e chars 400;store f bytes 400;");
        Due.due("all places of the fullest bank", x.about(10), 2400);
        Due.due("a thing and none have no places", Due.told("thing a;none b;store c bits 7;").about(10), 7);
    }
}
