import java.lang.reflect.InvocationTargetException;
import java.lang.reflect.Method;
import java.lang.reflect.Modifier;
import java.util.ArrayList;
import java.util.Comparator;
import java.util.List;

/** No call throws, whatever its numbers are; what undo, image and back promise of each other holds all along. */
public final class StormTest {
    private static final String[] TEXTS = {
        "",
        "thing a;none b;",
        "cache 1 by 2 of 4;store b bytes 20;store w words 3;thing t;none n;store d doubles 8;store q bits 2;"
            + "texture p on b at 0 size 4 by 4 levels 2 rows repeat;fill p 1 4 0;",
        "cache 8 by 4 of 1;store s chars 400;texture a on s at 0 size 16 by 16 levels 5 tiles clamp;"
            + "texture c on s at 100 size 4 by 2 levels 3 curves mirror;fill c 1 10 0;",
        "none x;thing y;store a texels 400;store b floats 400;store c longs 400;store d shorts 400;"
            + "texture p on d at 59 size 16 by 16 levels 5 curves mirror;texture q on b at 399 size 1 by 1 levels 1 tiles clamp;"
            + "texture r on c at 3 size 1 by 16 levels 5 rows repeat;fill r 99 9999 0;",
    };
    private static final long[] EDGES = {
        Integer.MIN_VALUE, Integer.MAX_VALUE, -1000001, -1000000, 1000000, 1000001, -100000, 99999, -10000, 10000, 9999,
        -1000, 1000, 999, 900, 901, 881, 880, 400, 399, 161, 160, 100, 17, 16, 15, 11, 10, 9, 8, 7, 6, 5, 4, 3, 2, 1, 0, -1, -2,
    };
    private static long seed = 12345;

    public static void main(String[] args) throws ReflectiveOperationException {
        List<Method> calls = new ArrayList<>();
        for (Method method : TexelBank.class.getDeclaredMethods()) {
            if (Modifier.isPublic(method.getModifiers())) {
                calls.add(method);
            }
        }
        calls.sort(Comparator.comparing(Method::getName));
        Due.due("public methods", calls.size(), 46);
        for (int run = 0; run < 300; run++) {
            storm(calls, run);
        }
        for (int run = 0; run < 100; run++) {
            undoAll(run);
        }
        Due.close();
    }

    private static int random(int bound) {
        seed = seed * 6364136223846793005L + 1442695040888963407L;
        return (int) ((seed >>> 33) % bound);
    }

    private static long number() {
        return random(3) > 0 ? random(17) : EDGES[random(EDGES.length)];
    }

    private static void storm(List<Method> calls, int run) throws ReflectiveOperationException {
        TexelBank x = run == 0 ? new TexelBank() : Due.told(TEXTS[run % TEXTS.length]);
        for (int k = 0; k < 500; k++) {
            Method method = calls.get(random(calls.size()));
            if (method.getName().equals("bank") && random(4) > 0) {
                continue;
            }
            Object[] numbers = new Object[method.getParameterCount()];
            for (int p = 0; p < numbers.length; p++) {
                numbers[p] = method.getParameterTypes()[p] == long.class ? (Object) (number() << random(60)) : (Object) (int) number();
            }
            try {
                method.invoke(x, numbers);
            } catch (InvocationTargetException e) {
                Due.dueTrue(method.getName() + " of run " + run + " threw " + e.getCause(), false);
            }
        }
    }

    private static void act(TexelBank x) {
        int store = random(6);
        int place = random(22);
        switch (random(6)) {
            case 0: x.poke(store, 1 + random(8), place, random(9) - 4); break;
            case 1: x.put(store, place, random(11), random(7)); break;
            case 2: x.convert(store, random(6)); break;
            case 3: x.paint(random(3), random(4), random(4), random(100)); break;
            case 4: x.fill(random(3), random(9) - 4, random(9) - 4, random(9) - 4); break;
            default: x.make(random(3));
        }
    }

    private static void undoAll(int run) {
        TexelBank x = Due.told(TEXTS[2 + run % 3]);
        for (int k = 0; k < run % 30; k++) {
            act(x);
        }
        x.image(1);
        Due.dueTrue("back takes what was kept", x.back(1) >= 0);
        int before = x.image(0);
        List<Long> totals = new ArrayList<>();
        List<Integer> counts = new ArrayList<>();
        for (int k = 0; k < 18; k++) {
            long sum = sum(x);
            int acts = x.about(8);
            act(x);
            if (x.about(8) > acts) {
                totals.add(sum);
                counts.add(acts);
            } else {
                Due.due("sum when it was no act", sum(x), sum);
            }
        }
        for (int k = totals.size() - 1; k >= 0; k--) {
            Due.due("undo of run " + run, x.undo(), counts.get(k));
            Due.due("sum after undo of run " + run, sum(x), totals.get(k));
        }
        Due.due("undo without any", x.undo(), -1);
        Due.due("back where it began", x.image(1), before);
    }

    /** A sum in which each place weighs another much, so that no two states are likely to be alike. */
    private static long sum(TexelBank x) {
        long sum = 0;
        for (int store = 0; store < 6; store++) {
            for (int place = 0; place < x.length(store); place++) {
                sum = sum * 31 + x.peek(store, 0, place);
            }
        }
        return sum;
    }
}
