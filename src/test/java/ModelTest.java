import java.lang.reflect.InvocationTargetException;
import java.lang.reflect.Method;
import java.util.ArrayList;
import java.util.List;

/** All promises: runs of calls on a TexelBank and on a PlainBank, answer by answer. */
public final class ModelTest {
    private static final int RUNS = 500;
    private static final int CALLS = 500;
    private static final String[] KINDS = {"bits", "bytes", "chars", "shorts", "ints", "longs", "floats", "doubles", "texels", "words"};
    private static final String[] WORDS = ("cache by of store thing none texture on at size levels fill bits bytes chars shorts ints longs "
        + "floats doubles texels words rows tiles curves repeat clamp mirror kind order wrap aaaaaaa aaaaaaaa aaaaaaaaa a b z ; 0 1 5 9 "
        + "16 400 401 0000 12345 1a ?").split(" ");
    // Of each call how often it comes, and what its numbers are of.
    private static final String[] CALLS_OF = {
        "1 kind store", "1 length store", "9 peek store how place", "9 poke store how place v", "9 put store place box v",
        "5 convert store store", "3 unlike store store", "2 total store", "3 find store place v", "3 loses store kind", "5 undo",
        "2 texture texture what", "2 level texture level what", "3 place texture level x x", "3 at texture level behind",
        "3 texel texture level x x", "4 paint texture x x v", "3 fill texture factor factor factor", "2 make texture",
        "3 wrap texture c n", "4 nearest texture level u u", "6 smooth texture level u u", "6 blend texture u u depth",
        "4 axis part part part part what", "8 filtered texture u u part part part part", "3 unpack block four four",
        "4 pack texture level four four", "3 off texture level four four", "12 fetch texture level x x", "1 flush",
        "2 walk texture level four", "1 bestWalk texture level", "3 walkAs texture level four three", "2 bestOrder texture level four",
        "3 moved texture level behind three", "4 area texture level x x n n", "3 stale texture", "4 leaves set", "4 hottest k two",
        "1 image two", "2 back two", "4 about what", "2 fault two", "1 end n", "1 bank",
    };
    private static final int[] EDGES = {
        Integer.MIN_VALUE, Integer.MAX_VALUE, -1000001, -1000000, 1000000, 1000001, -100000, -99999, 99999, 100000, -10000, -9999, 9999,
        10000, -1000, -999, 999, 1000, 900, 401, 400, 399, 161, 160, 17, 16, 15, 11, 10, 9, 8, 7, 6, 5, 4, 3, 2, 1, 0, -1, -2, -3,
    };
    private static long seed = 20261119;

    public static void main(String[] args) throws ReflectiveOperationException {
        List<String> calls = new ArrayList<>();
        for (String call : CALLS_OF) {
            for (int k = 0; k < call.charAt(0) - '0' + (call.charAt(1) == ' ' ? 0 : 11); k++) {
                calls.add(call.substring(call.indexOf(' ') + 1));
            }
        }
        for (int run = 0; run < RUNS; run++) {
            compare(calls, run);
        }
        Due.close();
    }

    private static int random(int bound) {
        seed = seed * 6364136223846793005L + 1442695040888963407L;
        return (int) ((seed >>> 33) % bound);
    }

    private static void compare(List<String> calls, int run) throws ReflectiveOperationException {
        TexelBank x = new TexelBank();
        PlainBank plain = new PlainBank();
        int left = CALLS;
        while (left > 0) {
            left -= tell(x, plain, run);
            for (int k = 0; k < 150 && left > 0; k++) {
                String[] call = calls.get(random(calls.size())).split(" ");
                Object[] numbers = new Object[call.length - 1];
                Class<?>[] types = new Class<?>[numbers.length];
                for (int p = 0; p < numbers.length; p++) {
                    types[p] = call[p + 1].equals("block") ? long.class : int.class;
                    numbers[p] = types[p] == long.class ? (Object) block() : (Object) number(call[p + 1]);
                }
                compareCall(x, plain, run, call[0], types, numbers);
                left--;
            }
        }
    }

    private static void compareCall(TexelBank x, PlainBank plain, int run, String name, Class<?>[] types, Object[] numbers)
            throws ReflectiveOperationException {
        Method due = PlainBank.class.getDeclaredMethod(name, types);
        Method asked = TexelBank.class.getDeclaredMethod(name, types);
        String call = "run " + run + ": " + name + List.of(numbers);
        try {
            Due.due(call, ((Number) asked.invoke(x, numbers)).longValue(), ((Number) due.invoke(plain, numbers)).longValue());
        } catch (InvocationTargetException e) {
            Due.dueTrue(call + " threw " + e.getCause(), false);
        }
    }

    private static long block() {
        long ends = random(2) > 0 ? (long) random(65536) << 16 | random(65536) : random(100) << 16 | random(100);
        return ends | (long) random(Integer.MAX_VALUE) << 32 | (long) random(2) << 63;
    }

    private static int number(String of) {
        if (random(14) == 0) {
            return EDGES[random(EDGES.length)];
        }
        return switch (of) {
            case "store" -> random(6);
            case "how", "what" -> random(9);
            case "box" -> random(11);
            case "kind" -> random(10);
            case "place" -> random(3) > 0 ? random(8) : random(400);
            case "behind" -> random(3) > 0 ? random(20) : random(256);
            case "v" -> random(2) > 0 ? random(7) : random(2000001) - 1000000 >> random(20);
            case "texture", "two" -> random(2 + random(3));
            case "level" -> random(1 + random(6));
            case "x" -> random(2 + random(16));
            case "four" -> random(4);
            case "three" -> random(3);
            case "factor" -> random(19999) - 9999 >> random(14);
            case "c" -> random(199999) - 99999 >> random(17);
            case "n" -> 1 + random(16);
            case "u" -> random(19999) - 9999 >> random(10);
            case "depth" -> random(1 + random(161));
            case "part" -> random(1999) - 999 >> random(10);
            case "set" -> random(8);
            case "k" -> random(1 + random(20));
            default -> throw new IllegalArgumentException(of);
        };
    }

    /** Tells both a text; how many calls that took. */
    private static int tell(TexelBank x, PlainBank plain, int run) {
        String text = text();
        while (text.length() > 900) {
            text = text();
        }
        int calls = 4;
        for (int from = 0; from < text.length(); from += 20) {
            int[] five = new int[5];
            for (int k = 0; k < 20; k++) {
                int sign = from + k < text.length() ? text.charAt(from + k) : random(256);
                five[k / 4] = five[k / 4] << 8 | sign;
            }
            Due.due("run " + run + ": feed", x.feed(five[0], five[1], five[2], five[3], five[4]),
                plain.feed(five[0], five[1], five[2], five[3], five[4]));
            calls++;
        }
        Due.due("run " + run + ": end", x.end(text.length()), plain.end(text.length()));
        Due.due("run " + run + ": bank of " + text, x.bank(), plain.bank());
        Due.due("run " + run + ": fault(0) of " + text, x.fault(0), plain.fault(0));
        Due.due("run " + run + ": fault(1) of " + text, x.fault(1), plain.fault(1));
        return calls;
    }

    private static String pick(String... of) {
        return of[random(of.length)];
    }

    private static String text() {
        List<String> tokens = new ArrayList<>();
        int stores = 1 + random(6);
        int textures = random(5);
        List<String> rows = new ArrayList<>();
        int cacheAt = random(12);
        int named = 0;
        for (int k = 0; k < stores; k++) {
            if (k == cacheAt) {
                line(tokens, "cache " + pick("1", "2", "4", "8") + " by " + (1 + random(4)) + " of " + pick("1", "2", "4", "8", "16") + " ;");
            }
            String name = " s" + (char) ('a' + k);
            String kind = pick(KINDS);
            boolean row = random(8) > 0;
            line(tokens, row ? "store" + name + " " + kind + " " + length() + " ;" : pick("thing", "none") + name + " ;");
            if (row && !List.of("bits", "texels", "words").contains(kind)) {
                rows.add(name.substring(1));
            }
        }
        for (int k = 0; k < textures; k++) {
            if (!rows.isEmpty() && random(8) > 0) {
                texture(tokens, named, random(30) > 0 ? rows.get(random(rows.size())) : "sa");
                named++;
            }
            if (named > 0 && random(2) > 0) {
                line(tokens, "fill t" + (char) ('a' + random(named)) + " " + random(200) + " " + random(3000) + " " + random(10000) + " ;");
            }
        }
        if (random(3) == 0) {
            int at = random(tokens.size());
            switch (random(3)) {
                case 0 -> tokens.remove(at);
                case 1 -> tokens.add(at, pick(WORDS));
                default -> tokens.set(at, pick(WORDS));
            }
        }
        return joined(tokens);
    }

    private static int length() {
        return random(3) > 0 ? 1 + random(400) : 340 + random(61);
    }

    private static void line(List<String> tokens, String line) {
        tokens.addAll(List.of(line.split(" ")));
    }

    private static void texture(List<String> tokens, int k, String store) {
        int width = 1 << random(5);
        int height = 1 << random(5);
        int most = 1 + Integer.numberOfTrailingZeros(Math.max(width, height));
        line(tokens, "texture t" + (char) ('a' + k) + " on " + store + " at " + random(1 + random(100)) + " size " + width
            + " by " + height + " levels " + (1 + random(most)) + " " + pick("rows", "tiles", "curves") + " " + pick("repeat", "clamp", "mirror") + " ;");
    }

    /** The TOKENS with blanks where they need any, and now and then where they don't. */
    private static String joined(List<String> tokens) {
        StringBuilder text = new StringBuilder();
        char last = ';';
        for (String token : tokens) {
            boolean needed = last != ';' && token.charAt(0) != ';' && !(Character.isLetter(last) && Character.isDigit(token.charAt(0)));
            if (needed || random(8) == 0) {
                text.append(pick(" ", "\n", " ", "  "));
            }
            text.append(token);
            last = token.charAt(token.length() - 1);
        }
        return text.append(pick("", "", "\n", " ")).toString();
    }
}
