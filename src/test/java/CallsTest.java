import java.lang.management.ManagementFactory;
import java.lang.reflect.Array;
import java.lang.reflect.Field;
import java.lang.reflect.Modifier;
import java.util.IdentityHashMap;
import java.util.Map;

/** "An object is used for at most 512 calls": it answers as it should up to the last, and takes little room. */
public final class CallsTest {
    private static final int CALLS = 512;

    public static void main(String[] args) throws Exception {
        answersUpToTheLastCall();
        dearCallsUpToTheLast();
        manyObjectsApart();
        roomOfAnObject();
        callsMakeNothing();
        Due.finish();
    }

    // the last of 512 changes, and the last of 512 answers
    private static void answersUpToTheLastCall() {
        SpireLean x = new SpireLean();
        for (int n = 1; n < CALLS; n++) {
            Due.due("stiff, call " + n, x.stiff(n % 21), n == 1 ? 2 : (n - 1) % 21);
        }
        Due.due("rule(8), the last call", x.rule(8), (CALLS - 1) % 21);
        x = new SpireLean();
        for (int n = 0; n < CALLS / 2; n++) {
            Due.due("feed", x.feed(' '), 1);
            Due.due("text", x.text(), 0);
        }
    }

    private static void dearCallsUpToTheLast() {
        SpireLean x = States.full();
        x.raze(4);
        int site = x.site(0, 20, 0, 0);
        int ask = x.ask(0, 0);
        int spots = x.spots(3, 0);
        long mean = x.mean(3, 8, 0);
        for (int n = 0; n < 60; n++) {
            Due.due("site", x.site(0, 20, 0, 0), site);
            Due.due("ask", x.ask(0, 0), ask);
            Due.due("spots", x.spots(3, 0), spots);
            Due.due("mean", x.mean(3, 8, 0), mean);
        }
    }

    // what is done to one is not seen in another
    private static void manyObjectsApart() {
        SpireLean[] all = new SpireLean[50];
        for (int i = 0; i < all.length; i++) {
            all[i] = new SpireLean();
            all[i].bend(i);
            all[i].put(0, 1 + i % 20, i);
            all[i].keep(0);
            all[i].sheet(0, i % 3, i % 41);
        }
        for (int i = 0; i < all.length; i++) {
            Due.due("rule(3) of " + i, all[i].rule(3), i);
            Due.due("draw(0, 1) of " + i, all[i].draw(0, 1), 1 + i % 20);
            Due.due("count(3) of " + i, all[i].count(3), i % 41);
        }
        Due.due("a new one", new SpireLean().rule(0), 0);
    }

    // some 600,000 objects and 7.3 million fields and elements are the room of all that a run makes
    private static void roomOfAnObject() throws Exception {
        Map<Object, Boolean> met = new IdentityHashMap<>();
        int size = walk(new SpireLean(), met);
        Due.due("objects and arrays: " + met.size(), met.size() <= 60 ? 1 : 0, 1);
        Due.due("fields and elements: " + size, size <= 1000 ? 1 : 0, 1);
    }

    private static int walk(Object o, Map<Object, Boolean> met) throws Exception {
        if (o == null || met.put(o, true) != null) {
            return 0;
        }
        int size = 0;
        if (o.getClass().isArray()) {
            size = Array.getLength(o);
            if (!o.getClass().getComponentType().isPrimitive()) {
                for (Object part : (Object[]) o) {
                    size += walk(part, met);
                }
            }
            return size;
        }
        for (Field f : o.getClass().getDeclaredFields()) {
            if (!Modifier.isStatic(f.getModifiers())) {
                size++;
                f.setAccessible(true);
                size += f.getType().isPrimitive() ? 0 : walk(f.get(o), met);
            }
        }
        return size;
    }

    /** Every row is made in the constructor: no call makes one. */
    private static void callsMakeNothing() {
        com.sun.management.ThreadMXBean threads =
                (com.sun.management.ThreadMXBean) ManagementFactory.getThreadMXBean();
        // what the machine makes for itself, it makes at some times alone: what a call makes, at each
        long least = Long.MAX_VALUE;
        for (int time = 0; time < 10; time++) {
            SpireLean x = States.full();
            long before = threads.getThreadAllocatedBytes(Thread.currentThread().getId());
            callAll(x);
            long after = threads.getThreadAllocatedBytes(Thread.currentThread().getId());
            least = Math.min(least, after - before);
        }
        Due.due("bytes that calls took", least, 0);
    }

    private static long callAll(SpireLean x) {
        long sum = x.feed(1) + x.end(9) + x.fault() + x.rule(6) + x.draw(0, 5) + x.alter(0, 2, 7) + x.stiff(1)
                + x.bears(18) + x.bend(3) + x.raze(4) + x.put(1, 2, 3) + x.years(2);
        sum += x.runs(60, 4) + x.falls() + x.comes(9) + x.share(0, 60, 0) + x.turn() + x.need() + x.brace()
                + x.lure(0, 99) + x.raze(4) + x.site(0, 1, 99, 0) + x.hush(0) + x.swap(0) + x.kind(0, 60, 0);
        sum += x.luck(3, 3, 8, 0) + x.mean(3, 8, 0) + x.forget(1) + x.see(1, 3) + x.kinds(0) + x.pulls(0)
                + x.spots(0, 0) + x.ask(0, 0) + x.drift(1, 60, 0) + x.keep(0) + x.back(1);
        return sum + x.sheet(0, 0, 40) + x.lay(0, 0, 1) + x.read(0, 0, 0, 20) + x.torn() + x.count(4) + x.text();
    }
}
