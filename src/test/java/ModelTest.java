import java.lang.reflect.Method;
import java.util.ArrayList;
import java.util.List;
import java.util.Random;

/** Runs of calls by fixed seeds, each answer held against that of the Model. */
public final class ModelTest {
    private static final int RUNS = 600;
    private static final int ROUNDS = 150;
    /** What an object answers behind these is free. */
    private static final int MOST_CALLS = 512;

    /** How often a call comes, its name, and the bounds of its numbers. */
    private static final String[] CALLS_BY_WEIGHT = {
        "1 feed 0 127", "1 end 0 160", "2 text", "2 fault", "12 rule 0 9", "12 draw 0 4 0 6",
        "8 alter 0 4 0 3 0 99", "3 stiff 0 20", "3 bears 0 18", "3 bend 0 99", "5 put 0 3 1 20 0 99", "1 raze 0 5",
        "5 years 0 30", "10 runs 0 60 0 4", "4 falls", "5 comes 0 99", "6 share 0 4 1 60 0 1", "4 turn",
        "3 need", "3 brace", "6 lure 0 4 0 99", "4 site 0 3 1 20 0 99 0 1", "5 hush 0 1", "5 swap 0 1",
        "6 kind 0 4 0 60 0 1", "4 luck 0 10 0 99 0 8 0 1", "4 mean 0 10 0 8 0 1", "2 see 0 30 0 99", "2 forget 0 6",
        "5 kinds 0 4", "5 pulls 0 4", "5 spots 0 4 0 1", "5 ask 0 4 0 1", "5 drift -2147483648 2147483647 1 60 0 1",
        "2 keep 0 1", "2 back 0 1", "4 sheet 0 3 0 2 0 40", "6 lay 0 3 0 39 0 99", "6 read 0 3 0 2 0 39 0 20",
        "4 torn", "4 count 0 5"};
    private static final int[] EXTREMES = {
        Integer.MIN_VALUE, Integer.MIN_VALUE + 1, -100, -20, -2, -1, 0, 1, 5, 20, 61, 100, 128, 256, 65536, 1000000,
        Integer.MAX_VALUE - 1, Integer.MAX_VALUE};

    private final Random random;
    private final SpireLean program = new SpireLean();
    private final Model model = new Model();
    private final StringBuilder told = new StringBuilder();
    private int calls = 0;

    private ModelTest(long seed) {
        random = new Random(seed);
    }

    public static void main(String[] args) throws Exception {
        for (int run = 0; run < RUNS; run++) {
            ModelTest test = new ModelTest(run);
            if (!test.run()) {
                System.out.println("run " + run + ":" + test.told);
                Due.due("run " + run, 1, 0);
                break;
            }
            Due.due("run " + run, 0, 0);
        }
        Due.finish();
    }

    private boolean run() throws Exception {
        List<String> bag = new ArrayList<>();
        for (String line : CALLS_BY_WEIGHT) {
            int weight = Integer.parseInt(line.substring(0, line.indexOf(' ')));
            for (int i = 0; i < weight; i++) {
                bag.add(line.substring(line.indexOf(' ') + 1));
            }
        }
        boolean fine = random.nextInt(4) == 0 || tell(false);
        for (int i = 0; i < ROUNDS && fine; i++) {
            int dice = random.nextInt(40);
            if (dice == 0) {
                fine = tell(random.nextBoolean());
            } else if (dice == 1) {
                fine = lookBack();
            } else if (dice == 2) {
                fine = laySheet();
            } else if (dice == 3 && random.nextInt(3) == 0) {
                fine = growOld();
            } else {
                fine = callOf(bag.get(random.nextInt(bag.size())));
            }
        }
        return fine;
    }

    private boolean same(String name, int... numbers) throws Exception {
        calls++;
        if (calls > MOST_CALLS) {
            return true;
        }
        Class<?>[] types = new Class<?>[numbers.length];
        Object[] values = new Object[numbers.length];
        for (int i = 0; i < numbers.length; i++) {
            types[i] = int.class;
            values[i] = numbers[i];
        }
        Method ours = SpireLean.class.getMethod(name, types);
        Method theirs = Model.class.getMethod(name, types);
        long got = ((Number) ours.invoke(program, values)).longValue();
        long want = ((Number) theirs.invoke(model, values)).longValue();
        told.append(' ').append(name).append(java.util.Arrays.toString(numbers)).append('=').append(got);
        if (got != want) {
            told.append(" but due is ").append(want);
        }
        return got == want;
    }

    private boolean callOf(String line) throws Exception {
        String[] words = line.split(" ");
        int[] numbers = new int[(words.length - 1) / 2];
        for (int i = 0; i < numbers.length; i++) {
            long least = Long.parseLong(words[1 + 2 * i]);
            long most = Long.parseLong(words[2 + 2 * i]);
            numbers[i] = number(least, most);
        }
        // alter's third number means something else by each second one
        if (words[0].equals("alter") && random.nextInt(3) > 0) {
            numbers[2] = number(0, new int[] {3, 20, 99, 60}[Math.floorMod(numbers[1], 4)]);
        }
        if (words[0].equals("see") && random.nextInt(3) > 0) {
            numbers[1] = model.runs(Math.floorMod(numbers[0], 31), 0);
        }
        return same(words[0], numbers);
    }

    private int number(long least, long most) {
        int dice = random.nextInt(60);
        if (dice == 0) {
            return EXTREMES[random.nextInt(EXTREMES.length)];
        }
        if (dice == 1) {
            return (int) (random.nextBoolean() ? least - 1 : most + 1);
        }
        if (dice < 5) {
            return (int) (random.nextBoolean() ? least : most);
        }
        return (int) (least + (long) (random.nextDouble() * (most - least + 1)));
    }

    private boolean tell(boolean spoil) throws Exception {
        StringBuilder text = new StringBuilder();
        int draws = random.nextInt(random.nextInt(8) == 0 ? 7 : 6);
        List<String> lines = new ArrayList<>();
        for (int i = 0; i < draws; i++) {
            lines.add(new String[] {"chimney ", "market ", "chapel ", "dock "}[random.nextInt(4)]
                    + (1 + random.nextInt(20)) + " " + random.nextInt(100) + " "
                    + (random.nextInt(3) == 0 ? random.nextInt(61) : 0) + ";");
        }
        if (random.nextInt(2) == 0) lines.add("foot " + random.nextInt(100) + ";");
        if (random.nextInt(2) == 0) lines.add("stiff " + random.nextInt(21) + ";");
        if (random.nextInt(2) == 0) lines.add("bears " + random.nextInt(19) + ";");
        if (random.nextInt(20) == 0) lines.add("bears " + random.nextInt(19) + ";");
        java.util.Collections.shuffle(lines, random);
        lines.forEach(text::append);
        if (spoil) {
            spoil(text);
        }
        for (int i = 0; i < text.length(); i++) {
            if (!same("feed", text.charAt(i))) return false;
        }
        return same("text") && same("fault");
    }

    private void spoil(StringBuilder text) {
        int times = 1 + random.nextInt(3);
        for (int i = 0; i < times && text.length() > 0; i++) {
            int place = random.nextInt(text.length());
            char c = "  ;;0123456789azk{/:`A\t\n\0\u007f".charAt(random.nextInt(26));
            switch (random.nextInt(4)) {
                case 0: text.insert(place, c); break;
                case 1: text.deleteCharAt(place); break;
                case 2: text.setCharAt(place, c); break;
                default: text.setLength(place);
            }
        }
    }

    /** What is SEEN is so, by some other pull, kind or place of a draw. */
    private boolean lookBack() throws Exception {
        if (model.now.draws().isEmpty()) {
            return true;
        }
        int i = random.nextInt(model.now.draws().size());
        int what = random.nextInt(3);
        int v = new int[] {random.nextInt(4), 1 + random.nextInt(20), random.nextInt(100)}[what];
        List<Model.World> ahead = model.now.with(i, what, v).ahead(30);
        if (!same("forget", 0)) return false;
        for (int k = 0; k < 3; k++) {
            int n = random.nextInt(31);
            if (!same("see", n, ahead.get(n).point())) return false;
        }
        return same("kinds", i) && same("pulls", i) && same("spots", i, 0) && same("spots", i, 1)
                && same("ask", i, 0) && same("ask", i, 1);
    }

    private boolean laySheet() throws Exception {
        int k = random.nextInt(4), lane = random.nextInt(3), n = random.nextInt(41);
        if (!same("sheet", k, lane, n)) return false;
        int draws = Math.max(1, model.now.draws().size());
        for (int i = 0; i < n; i++) {
            int v = i % 2 == 0 ? random.nextInt(draws) : random.nextInt(100);
            if (random.nextInt(40) == 0) v = random.nextInt();
            if (random.nextInt(10) == 0) v += 65536 * random.nextInt(9);
            if (!same("lay", k, i, v)) return false;
        }
        return same("read", k, lane, 2 * random.nextInt(4), random.nextInt(21)) && same("torn")
                && same("rule", 3) && same("rule", 1);
    }

    private boolean growOld() throws Exception {
        for (int i = 0; i < 33; i++) {
            if (!same("years", 30)) return false;
        }
        return same("years", 9) && same("rule", 1);
    }
}
