import java.lang.reflect.Method;
import java.lang.reflect.Modifier;

/** No call throws, whatever its numbers are and whatever came before; and what is refused changes nothing. */
public final class ExtremesTest {
    private static final int[] NUMBERS = {
        Integer.MIN_VALUE, Integer.MIN_VALUE + 1, -11, -2, -1, 0, 1, 2, 3, 4, 5, 8, 10, 20, 21, 39, 40, 60, 61, 99,
        100, 127, 128, 161, 1000, Integer.MAX_VALUE - 1, Integer.MAX_VALUE};
    private static final int[] FEWER = {Integer.MIN_VALUE, -1, 0, 1, 2, 7, 40, 100, Integer.MAX_VALUE};

    public static void main(String[] args) throws Exception {
        for (Method m : SpireLean.class.getDeclaredMethods()) {
            if (Modifier.isPublic(m.getModifiers())) {
                int[] numbers = m.getParameterCount() > 2 ? FEWER : NUMBERS;
                callAll(m, numbers, new Object[m.getParameterCount()], 0);
            }
        }
        Due.finish();
    }

    private static void callAll(Method m, int[] numbers, Object[] values, int given) throws Exception {
        if (given < values.length) {
            for (int v : numbers) {
                values[given] = v;
                callAll(m, numbers, values, given + 1);
            }
            return;
        }
        for (int state = 0; state < 4; state++) {
            SpireLean x = inState(state);
            String before = look(x);
            long got = ((Number) m.invoke(x, values)).longValue();
            boolean refusable = !m.getName().equals("text") && !m.getName().equals("rule") && !m.getName().equals("draw");
            if (got < 0 && refusable) {
                String call = m.getName() + java.util.Arrays.toString(values);
                Due.due(call + " is refused and changes nothing", look(x).equals(before) ? 1 : 0, 1);
            }
        }
    }

    private static SpireLean inState(int state) {
        SpireLean x = new SpireLean();
        if (state == 0) {
            return x;
        }
        String text = state == 1 ? "dock 20 0 0;foot 99;bears 18;" : "dock 20 0 3;market 1 9 0;chapel 3 55 1;chimney 20 90 0;dock 7 8 9;";
        for (char c : text.toCharArray()) {
            x.feed(c);
        }
        x.text();
        x.see(1, 44);
        x.keep(1);
        x.sheet(0, 0, 40);
        x.sheet(1, 2, 0);
        x.feed('a');
        if (state == 3) {
            for (int i = 0; i < 33; i++) {
                x.years(30);
            }
            x.years(9);
            // full, and still far from the 512 calls for which an object is used
            for (int i = 1; i < 160; i++) {
                x.feed('0');
            }
            for (int i = 1; i < 6; i++) {
                x.see(30, 99);
            }
            x.bend(0);
        }
        return x;
    }

    private static String look(SpireLean x) {
        StringBuilder all = new StringBuilder();
        for (int what = 0; what < 10; what++) {
            all.append(x.rule(what)).append(' ').append(x.count(what)).append(' ');
            for (int i = 0; i < 5; i++) {
                all.append(x.draw(i, what)).append(' ');
            }
        }
        return all.append(x.fault()).append(' ').append(x.torn()).toString();
    }
}
