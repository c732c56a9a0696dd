import java.util.ArrayList;
import java.util.Arrays;
import java.util.HashMap;
import java.util.List;
import java.util.Map;
import java.util.function.IntPredicate;
import java.util.function.Predicate;
import java.util.stream.Collectors;
import java.util.stream.IntStream;

/**
 * The document once more, written another way: worlds that never change, whole trajectories instead of
 * counters, every course of calm years by itself, and sheets that the Java machine itself refuses.
 */
final class Model {
    static final int BAD = -1, STATE = -2, FULL = -3, NONE = -4;

    record Draw(int kind, int pull, int at, int since) {
        int strength() {
            int half = (int) Math.ceil(pull / 2.0);
            return new int[] {pull, half, half + 1, 3 * half}[kind];
        }

        Draw with(int what, int v) {
            return new Draw(what == 0 ? v : kind, what == 1 ? v : pull, what == 2 ? v : at, what == 3 ? v : since);
        }
    }

    static int far(int a, int b) {
        return Math.abs(a / 10 - b / 10) + Math.abs(a % 10 - b % 10);
    }

    record World(List<Draw> draws, int foot, int point, int stiff, int bears, int year) {
        int lean() {
            return far(foot, point);
        }

        boolean fallen() {
            return lean() > bears;
        }

        int force(Draw d) {
            return year < d.since ? 0 : (int) Math.floor(60.0 * d.strength() / (1 + far(d.at, point)));
        }

        int holder() {
            int max = draws.stream().mapToInt(this::force).max().orElse(0);
            if (fallen() || max <= stiff * lean()) {
                return NONE;
            }
            return IntStream.range(0, draws.size()).filter(i -> force(draws.get(i)) == max).findFirst().getAsInt();
        }

        World next() {
            if (fallen()) {
                return new World(draws, foot, point, stiff, bears, year + 1);
            }
            int goal = holder() == NONE ? foot : draws.get(holder()).at;
            int x = point / 10, y = point % 10, gx = goal / 10, gy = goal % 10;
            if (Math.abs(gx - x) >= Math.abs(gy - y)) {
                x += Integer.compare(gx, x);
            } else {
                y += Integer.compare(gy, y);
            }
            return new World(draws, foot, 10 * x + y, stiff, bears, year + 1);
        }

        World calm() {
            return new World(draws, foot, point, stiff, bears, year + 1);
        }

        List<World> ahead(int n) {
            List<World> all = new ArrayList<>();
            all.add(this);
            for (int i = 0; i < n; i++) {
                all.add(all.get(i).next());
            }
            return all;
        }

        World with(int i, int what, int v) {
            List<Draw> changed = new ArrayList<>(draws);
            changed.set(i, changed.get(i).with(what, v));
            return withDraws(changed);
        }

        World withDraws(List<Draw> d) {
            return new World(d, foot, point, stiff, bears, year);
        }

        World withPoint(int c) {
            return new World(draws, foot, c, stiff, bears, year);
        }

        World withStiff(int v) {
            return new World(draws, foot, point, v, bears, year);
        }

        World withBears(int v) {
            return new World(draws, foot, point, stiff, v, year);
        }

        int greatest(int n) {
            return ahead(n).stream().mapToInt(World::lean).max().getAsInt();
        }

        int first(int n, Predicate<World> p) {
            List<World> all = ahead(n);
            return IntStream.rangeClosed(0, n).filter(k -> p.test(all.get(k))).findFirst().orElse(NONE);
        }
    }

    private static final World START = new World(List.of(), 44, 44, 2, 9, 0);

    World now = START;
    private String tape = "";
    private int fault = 0;
    private int torn = 0;
    private List<int[]> seen = new ArrayList<>();
    private final World[] images = new World[2];
    private final Object[] sheets = new Object[4];

    private static boolean in(int v, int a, int b) {
        return a <= v && v <= b;
    }

    private boolean has(int i) {
        return in(i, 0, now.draws.size() - 1);
    }

    private static int first(int a, int b, IntPredicate p) {
        return IntStream.rangeClosed(a, b).filter(p).findFirst().orElse(NONE);
    }

    public int feed(int c) {
        if (!in(c, 0, 127)) return BAD;
        if (tape.length() == 160) return FULL;
        tape += (char) c;
        return tape.length();
    }

    public int end(int n) {
        if (!in(n, 0, tape.length())) return BAD;
        int had = tape.length();
        tape = tape.substring(0, n);
        return had;
    }

    private static final class Wrong extends RuntimeException {
        private static final long serialVersionUID = 1;
        final int fault, place;

        Wrong(int fault, int place) {
            this.fault = fault;
            this.place = place;
        }
    }

    /** Hands out one token a call, so that a fault of the letters is met no sooner than it is read. */
    private static final class Tokens {
        final String text;
        int at = 0, start = 0;

        Tokens(String text) {
            this.text = text;
        }

        String take() {
            while (at < text.length() && text.charAt(at) == ' ') at++;
            start = at;
            if (at == text.length()) return "";
            java.util.regex.Matcher m = java.util.regex.Pattern.compile("[a-z]+|[0-9]+|;").matcher(text);
            m.region(at, text.length());
            if (!m.lookingAt()) throw new Wrong(1, start);
            String t = m.group();
            if (Character.isDigit(t.charAt(0)) && t.length() > 2) throw new Wrong(1, start);
            at = m.end();
            return t;
        }

        int number(int a, int b) {
            String t = take();
            if (t.isEmpty() || !Character.isDigit(t.charAt(0))) throw new Wrong(2, start);
            int v = Integer.parseInt(t);
            if (!in(v, a, b)) throw new Wrong(3, start);
            return v;
        }

        void close() {
            if (!take().equals(";")) throw new Wrong(2, start);
        }
    }

    public int text() {
        Tokens t = new Tokens(tape);
        tape = "";
        List<Draw> draws = new ArrayList<>();
        Map<String, Integer> set = new HashMap<>();
        Map<String, Integer> most = Map.of("foot", 99, "stiff", 20, "bears", 18);
        List<String> kinds = List.of("chimney", "market", "chapel", "dock");
        int lines = 0;
        try {
            for (String word = t.take(); !word.isEmpty(); word = t.take()) {
                if (kinds.contains(word)) {
                    if (draws.size() == 5) throw new Wrong(5, t.start);
                    draws.add(new Draw(kinds.indexOf(word), t.number(1, 20), t.number(0, 99), t.number(0, 60)));
                } else if (most.containsKey(word)) {
                    if (set.containsKey(word)) throw new Wrong(4, t.start);
                    set.put(word, t.number(0, most.get(word)));
                } else {
                    throw new Wrong(2, t.start);
                }
                t.close();
                lines++;
            }
        } catch (Wrong w) {
            fault = w.fault;
            return -10 - w.place;
        }
        fault = 0;
        int foot = set.getOrDefault("foot", 44);
        now = new World(draws, foot, foot, set.getOrDefault("stiff", 2), set.getOrDefault("bears", 9), 0);
        seen = new ArrayList<>();
        Arrays.fill(images, null);
        return lines;
    }

    public int fault() {
        return fault;
    }

    public int rule(int what) {
        if (!in(what, 0, 9)) return BAD;
        return new int[] {now.draws.size(), now.year, now.foot, now.point, now.lean(), now.fallen() ? 1 : 0,
            now.holder(), now.stiff * now.lean(), now.stiff, now.bears}[what];
    }

    public int draw(int i, int what) {
        if (!has(i) || !in(what, 0, 6)) return BAD;
        Draw d = now.draws.get(i);
        return new int[] {d.kind, d.pull, d.at, d.since, d.strength(), now.force(d), far(d.at, now.point)}[what];
    }

    public int alter(int i, int what, int v) {
        if (!has(i) || !in(what, 0, 3)) return BAD;
        if (!in(v, new int[] {0, 1, 0, 0}[what], new int[] {3, 20, 99, 60}[what])) return BAD;
        int was = draw(i, what);
        now = now.with(i, what, v);
        return was;
    }

    public int stiff(int v) {
        if (!in(v, 0, 20)) return BAD;
        int was = now.stiff;
        now = now.withStiff(v);
        return was;
    }

    public int bears(int v) {
        if (!in(v, 0, 18)) return BAD;
        int was = now.bears;
        now = now.withBears(v);
        return was;
    }

    public int bend(int c) {
        if (!in(c, 0, 99)) return BAD;
        int was = now.point;
        now = now.withPoint(c);
        return was;
    }

    private static List<Draw> plus(List<Draw> draws, Draw d) {
        List<Draw> more = new ArrayList<>(draws);
        more.add(d);
        return more;
    }

    public int put(int kind, int pull, int c) {
        if (!in(kind, 0, 3) || !in(pull, 1, 20) || !in(c, 0, 99)) return BAD;
        if (now.draws.size() == 5) return FULL;
        now = now.withDraws(plus(now.draws, new Draw(kind, pull, c, 0)));
        return now.draws.size();
    }

    public int raze(int n) {
        int were = now.draws.size();
        if (!in(n, 0, were)) return BAD;
        now = now.withDraws(new ArrayList<>(now.draws.subList(0, n)));
        return were;
    }

    public int years(int n) {
        if (!in(n, 0, 30)) return BAD;
        if (now.year + n >= 1000) return FULL;
        now = now.ahead(n).get(n);
        return now.point;
    }

    public int runs(int n, int what) {
        if (!in(n, 0, 60) || !in(what, 0, 4)) return BAD;
        List<World> all = now.ahead(n);
        switch (what) {
            case 0: return all.get(n).point;
            case 1: return all.get(n).lean();
            case 2: return now.greatest(n);
            case 3: return (int) IntStream.range(0, n).filter(k -> all.get(k).point != all.get(k + 1).point).count();
            default: return all.subList(0, n).stream().mapToInt(World::holder).filter(h -> h >= 0)
                    .map(h -> 1 << h).reduce(0, (a, b) -> a | b);
        }
    }

    public int falls() {
        return now.first(60, World::fallen);
    }

    public int comes(int c) {
        return in(c, 0, 99) ? now.first(60, w -> w.point == c) : BAD;
    }

    private static long gcd(long a, long b) {
        return b == 0 ? a : gcd(b, a % b);
    }

    private static long part(long a, long b, int what) {
        return (what == 0 ? a : b) / gcd(a, b);
    }

    public long share(int i, int n, int what) {
        if (!has(i) || !in(n, 1, 60) || !in(what, 0, 1)) return BAD;
        return part(now.ahead(n).subList(0, n).stream().filter(w -> w.holder() == i).count(), n, what);
    }

    public int turn() {
        int has = now.holder();
        return now.first(60, w -> w.holder() != has);
    }

    public int need() {
        return first(0, 18, v -> now.withBears(v).first(60, World::fallen) == NONE);
    }

    public int brace() {
        return first(0, 20, v -> now.withStiff(v).first(60, World::fallen) == NONE);
    }

    public int lure(int i, int c) {
        if (!has(i) || !in(c, 0, 99)) return BAD;
        return first(1, 20, v -> now.with(i, 1, v).first(60, w -> w.point == c) != NONE);
    }

    public int site(int kind, int pull, int c, int what) {
        if (!in(kind, 0, 3) || !in(pull, 1, 20) || !in(c, 0, 99) || !in(what, 0, 1)) return BAD;
        if (now.draws.size() == 5) return FULL;
        int[] behind = IntStream.range(0, 100).map(at -> now.withDraws(plus(now.draws, new Draw(kind, pull, at, 0)))
                .first(60, w -> w.point == c)).toArray();
        int soonest = Arrays.stream(behind).filter(b -> b != NONE).min().orElse(NONE);
        if (soonest == NONE) return NONE;
        return what == 1 ? soonest : first(0, 99, at -> behind[at] == soonest);
    }

    public int hush(int what) {
        if (!in(what, 0, 1)) return BAD;
        int least = now.greatest(60), best = NONE;
        for (int i = 0; i < now.draws.size(); i++) {
            List<Draw> others = new ArrayList<>(now.draws);
            others.remove(i);
            int lean = now.withDraws(others).greatest(60);
            if (lean < least) {
                least = lean;
                best = i;
            }
        }
        return best == NONE ? NONE : what == 0 ? best : least;
    }

    public int swap(int what) {
        if (!in(what, 0, 1)) return BAD;
        int least = now.greatest(60), best = NONE;
        for (int code = 0; code < 100; code++) {
            int i = code / 10, j = code % 10;
            if (i >= j || j >= now.draws.size()) continue;
            int lean = now.with(i, 2, now.draws.get(j).at).with(j, 2, now.draws.get(i).at).greatest(60);
            if (lean < least) {
                least = lean;
                best = code;
            }
        }
        return best == NONE ? NONE : what == 0 ? best : least;
    }

    public int kind(int i, int n, int what) {
        if (!has(i) || !in(n, 0, 60) || !in(what, 0, 1)) return BAD;
        int[] gaps = IntStream.rangeClosed(0, 3)
                .map(k -> far(now.draws.get(i).at, now.with(i, 0, k).ahead(n).get(n).point)).toArray();
        int nearest = Arrays.stream(gaps).min().getAsInt();
        return what == 1 ? nearest : first(0, 3, k -> gaps[k] == nearest);
    }

    /** Adds the weight of every course of calm and other years to the CELL that it ends at. */
    private static void courses(World w, int n, int v, long weight, long[] cells) {
        if (n == 0) {
            cells[w.point] += weight;
            return;
        }
        courses(w.calm(), n - 1, v, weight * v, cells);
        courses(w.next(), n - 1, v, weight * (10 - v), cells);
    }

    private static long power(int n) {
        return n == 0 ? 1 : 10 * power(n - 1);
    }

    public long luck(int v, int c, int n, int what) {
        if (!in(v, 0, 10) || !in(c, 0, 99) || !in(n, 0, 8) || !in(what, 0, 1)) return BAD;
        long[] cells = new long[100];
        courses(now, n, v, 1, cells);
        return part(cells[c], power(n), what);
    }

    public long mean(int v, int n, int what) {
        if (!in(v, 0, 10) || !in(n, 0, 8) || !in(what, 0, 1)) return BAD;
        long[] cells = new long[100];
        courses(now, n, v, 1, cells);
        return part(IntStream.range(0, 100).mapToLong(c -> cells[c] * far(c, now.foot)).sum(), power(n), what);
    }

    public int see(int n, int c) {
        if (!in(n, 0, 30) || !in(c, 0, 99)) return BAD;
        if (seen.size() == 6) return FULL;
        seen.add(new int[] {n, c});
        return seen.size();
    }

    public int forget(int n) {
        if (!in(n, 0, seen.size())) return BAD;
        int were = seen.size();
        seen = new ArrayList<>(seen.subList(0, n));
        return were;
    }

    private boolean asSeen(World w) {
        List<World> all = w.ahead(30);
        return seen.stream().allMatch(s -> all.get(s[0]).point == s[1]);
    }

    private List<Integer> fitting(int i, int what, int a, int b) {
        return IntStream.rangeClosed(a, b).filter(v -> asSeen(now.with(i, what, v))).boxed()
                .collect(Collectors.toList());
    }

    private static int bits(List<Integer> list) {
        return list.stream().mapToInt(v -> 1 << v).sum();
    }

    public int kinds(int i) {
        return has(i) ? bits(fitting(i, 0, 0, 3)) : BAD;
    }

    public int pulls(int i) {
        return has(i) ? bits(fitting(i, 1, 1, 20)) : BAD;
    }

    public int spots(int i, int what) {
        if (!has(i) || !in(what, 0, 1)) return BAD;
        List<Integer> cells = fitting(i, 2, 0, 99);
        return what == 0 ? cells.size() : cells.isEmpty() ? NONE : cells.get(0);
    }

    public int ask(int i, int what) {
        if (!has(i) || !in(what, 0, 1)) return BAD;
        List<Integer> left = fitting(i, 1, 1, 20);
        int fewest = left.size(), best = NONE;
        for (int n = 0; n <= 30 && !left.isEmpty(); n++) {
            int behind = n;
            long worst = left.stream()
                    .collect(Collectors.groupingBy(p -> now.with(i, 1, p).ahead(behind).get(behind).point,
                            Collectors.counting()))
                    .values().stream().mapToLong(Long::longValue).max().getAsLong();
            if (worst < fewest) {
                fewest = (int) worst;
                best = n;
            }
        }
        return best == NONE ? NONE : what == 0 ? best : fewest;
    }

    public int drift(int seed, int n, int what) {
        if (!in(n, 1, 60) || !in(what, 0, 1)) return BAD;
        if (now.draws.isEmpty()) return STATE;
        World w = now;
        long s = seed;
        int greatest = w.lean();
        for (int k = 0; k < n; k++) {
            s = (int) (s * 1103515245L + 12345L);
            int got = (int) ((s & 0xffffffffL) / 65536 % 32768);
            w = w.with(got % w.draws.size(), 2, got / 8 % 100).next();
            greatest = Math.max(greatest, w.lean());
        }
        return what == 0 ? w.point : greatest;
    }

    public int keep(int k) {
        if (!in(k, 0, 1)) return BAD;
        int was = images[k] == null ? 0 : 1;
        images[k] = now;
        return was;
    }

    public int back(int k) {
        if (!in(k, 0, 1)) return BAD;
        if (images[k] == null) return STATE;
        now = images[k];
        return now.year;
    }

    public int sheet(int k, int lane, int n) {
        if (!in(k, 0, 3) || !in(lane, 0, 2) || n > 40) return BAD;
        try {
            sheets[k] = lane == 0 ? new byte[n] : lane == 1 ? new short[n] : new int[n];
            return 1;
        } catch (NegativeArraySizeException e) {
            return -14;
        }
    }

    public int lay(int k, int i, int v) {
        if (!in(k, 0, 3)) return BAD;
        try {
            Object row = sheets[k];
            if (row instanceof byte[]) ((byte[]) row)[i] = (byte) v;
            else if (row instanceof short[]) ((short[]) row)[i] = (short) v;
            else ((int[]) row)[i] = v;
            return 1;
        } catch (NullPointerException e) {
            return -11;
        } catch (ArrayIndexOutOfBoundsException e) {
            return -12;
        }
    }

    private static int cell(Object row, int lane, int i) {
        return lane == 0 ? ((byte[]) row)[i] : lane == 1 ? ((short[]) row)[i] : ((int[]) row)[i];
    }

    public int read(int k, int lane, int f, int n) {
        if (!in(k, 0, 3) || !in(lane, 0, 2) || !in(n, 0, 20)) return BAD;
        World before = now;
        int came = 0, found = 0;
        try {
            for (; came < n; came++) {
                int i = cell(sheets[k], lane, f + 2 * came), c = cell(sheets[k], lane, f + 2 * came + 1);
                if (alter(i, 2, c) < 0 || now.year == 999) {
                    now = before;
                    return -20 - came;
                }
                now = now.next();
            }
        } catch (NullPointerException e) {
            found = 1;
        } catch (ArrayIndexOutOfBoundsException e) {
            found = 2;
        } catch (ClassCastException e) {
            found = 3;
        }
        torn = found;
        return came;
    }

    public int torn() {
        return torn;
    }

    public int count(int what) {
        switch (what) {
            case 0: return seen.size();
            case 1: return (int) Arrays.stream(images).filter(w -> w != null).count();
            case 2: return tape.length();
            case 3: return sheets[0] == null ? NONE : java.lang.reflect.Array.getLength(sheets[0]);
            case 4: return now.draws.stream().mapToInt(Draw::pull).sum();
            case 5: return (int) now.draws.stream().filter(d -> now.year >= d.since).count();
            default: return BAD;
        }
    }
}
