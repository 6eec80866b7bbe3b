import java.lang.reflect.Array;
import java.lang.reflect.Field;
import java.lang.reflect.Modifier;
import java.util.IdentityHashMap;
import java.util.Map;
import java.util.Random;

/** Whatever is called, in whatever state: nothing is thrown, refused calls change nothing, and the room is kept. */
public final class AnyCallsTest {
    private static final int[] EDGES = {Integer.MIN_VALUE, -2, -1, 0, 1, 2, 3, 4, 5, 6, 7, 12, 119, 120, 199, 200, 201,
        1200, 20000, 20001, Integer.MAX_VALUE};

    public static void main(String[] args) {
        for (int seed = 0; seed < 400; seed++) {
            Random random = new Random(seed * 13L + 1);
            LineKeeper x = new LineKeeper();
            for (int i = 0; i < 512; i++) {
                call(x, random);
            }
        }
        Check.due("no call has thrown", true, true);
        room();
        Check.finish();
    }

    private static int any(Random random) {
        return random.nextInt(4) == 0 ? EDGES[random.nextInt(EDGES.length)] : random.nextInt(6);
    }

    private static void call(LineKeeper x, Random random) {
        int a = any(random);
        int b = any(random);
        int c = any(random);
        int d = any(random);
        int e = any(random);
        switch (random.nextInt(18)) {
            case 0:
                x.feed(random.nextInt(), b, c, d, random.nextInt());
                break;
            case 1: x.end(a); break;
            case 2: text(x, random); break;
            case 3: x.fault(a); break;
            case 4: x.routine(a, b); break;
            case 5: x.item(a, b, c); break;
            case 6: x.frame(a, b, c); break;
            case 7: x.told(a, b, c, d, e); break;
            case 8: x.pass(a, b); break;
            case 9: x.start(a, b, c, d, e); break;
            case 10: x.go(random.nextInt(4), a); break;
            case 11: x.stack(a, b); break;
            case 12: x.known(a, b); break;
            case 13: x.value(a, b); break;
            case 14: x.run(a); break;
            case 15: x.printed(a); break;
            case 16: x.beside(a, b, c, d, e, any(random)); break;
            default: x.compared(a);
        }
    }

    private static void text(LineKeeper x, Random random) {
        if (random.nextInt(4) == 0) {
            x.end(0);
            Check.tape(x, Text.any(random).write());
        }
        x.read();
    }

    /** What an object holds behind a hard day, in fields and elements. */
    private static void room() {
        int most = 0;
        for (int seed = 0; seed < 60; seed++) {
            Random random = new Random(seed);
            LineKeeper x = new LineKeeper();
            for (int i = 0; i < 40; i++) {
                Check.tape(x, Text.any(random).write());
                int routines = x.read();
                for (int r = 0; r < routines; r++) {
                    x.pass(4, r);
                    x.pass(random.nextInt(6), r);
                    x.beside(r, 3, 3, 3, 3, 500);
                }
            }
            int[] count = new int[1];
            measure(x, new IdentityHashMap<>(), count);
            most = Math.max(most, count[0]);
        }
        System.out.println("an object holds at most " + most + " fields and elements");
        Check.due("the room of an object", most < 80000, true);
    }

    private static void measure(Object object, Map<Object, Boolean> seen, int[] count) {
        if (object == null || seen.put(object, true) != null) {
            return;
        }
        Class<?> type = object.getClass();
        if (type.isArray()) {
            int length = Array.getLength(object);
            count[0] += length;
            for (int i = 0; i < length && !type.getComponentType().isPrimitive(); i++) {
                measure(Array.get(object, i), seen, count);
            }
            return;
        }
        for (Field field : type.getDeclaredFields()) {
            if (Modifier.isStatic(field.getModifiers())) {
                continue;
            }
            count[0]++;
            if (!field.getType().isPrimitive()) {
                field.setAccessible(true);
                try {
                    measure(field.get(object), seen, count);
                } catch (IllegalAccessException e) {
                    throw new IllegalStateException(e);
                }
            }
        }
    }
}
