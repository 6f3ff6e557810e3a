import java.util.Random;

/** Long runs of mixed calls, right and wrong, each answer against the plain model's. */
public final class RunsTest {
    private static final int RUNS = 300;
    private static final int CALLS = 512;
    private static final long ILLEGAL_ARGUMENT = Long.MIN_VALUE;
    private static final long ILLEGAL_STATE = Long.MIN_VALUE + 1;
    private static final int[] ODD = {
        Integer.MIN_VALUE, -1000, -2, -1, 0, 1, 2, 16, 17, 30, 31, 999, 1001, 1000001, 1000000001,
        Integer.MAX_VALUE};
    private static final String[] NAMES = {
        "index", "budget", "part", "moves", "care", "share", "cares", "most", "work", "join",
        "clash", "needs", "choose", "chosen", "costs", "lacks", "money", "reserve", "shortIn",
        "payment", "rest"};

    private final Random random;
    // Small amounts make ties, great ones reach the bounds.
    private final int most;
    private final int years;

    private RunsTest(int run) {
        random = new Random(run);
        most = run % 3 == 0 ? 4 : run % 3 == 1 ? 100 : 1000000;
        years = random.nextInt(16) - 1;
    }

    public static void main(String[] args) {
        for (int run = 0; run < RUNS; run++) {
            new RunsTest(run).run(run);
        }
        Check.end();
    }

    private void run(int run) {
        CostYears object = new CostYears(years);
        Model model = new Model(years);
        for (int call = 0; call < CALLS; call++) {
            String name = NAMES[random.nextInt(NAMES.length)];
            int[] with = arguments(name);
            long got = answer(() -> ofObject(object, name, with));
            long want = answer(() -> ofModel(model, name, with));
            Check.due("run " + run + ", call " + call + ": " + name
                + java.util.Arrays.toString(with), got, want);
        }
    }

    private interface Ask {
        long ask();
    }

    private static long answer(Ask ask) {
        try {
            return ask.ask();
        } catch (RuntimeException e) {
            if (e.getClass() == IllegalArgumentException.class) {
                return ILLEGAL_ARGUMENT;
            }
            if (e.getClass() == IllegalStateException.class) {
                return ILLEGAL_STATE;
            }
            throw e;
        }
    }

    private int from(int least, int greatest) {
        return least + random.nextInt(greatest - least + 1);
    }

    private int[] arguments(String name) {
        int[] with = likely(name);
        if (with.length > 0 && random.nextInt(12) == 0) {
            with[random.nextInt(with.length)] = ODD[random.nextInt(ODD.length)];
        }
        return with;
    }

    private int[] likely(String name) {
        int last = Math.max(0, Math.min(years, 12) - 1);
        int year = from(0, last);
        int part = from(0, random.nextInt(4) == 0 ? 11 : 1);
        int work = from(0, 9);
        int loan = random.nextBoolean() ? from(1, 1000) : from(1, 1000000000);
        switch (name) {
            case "index": return new int[] {year, from(500, 2000)};
            case "budget": return new int[] {year, from(0, 3 * most)};
            case "part": return new int[] {from(2, 4), from(0, 3)};
            case "moves": return new int[] {part, from(0, 3), from(0, 3), from(0, 9)};
            case "care": return new int[] {part, from(0, 3), from(0, Math.min(most, 1000))};
            case "share": return new int[] {part, from(0, 3), year};
            case "cares":
            case "most": return new int[] {part, year};
            case "work": return new int[] {
                from(0, Math.min(last, 2)), from(1, most), from(0, most), from(-1, 1)};
            case "join": return new int[] {work, from(0, 9), from(0, most)};
            case "clash": return new int[] {work, from(0, 9), random.nextInt(5) / 4};
            case "needs": return new int[] {work, from(-1, 3) < 0 ? from(0, 9) : -1};
            case "chosen": return new int[] {work};
            case "costs":
            case "reserve": return new int[] {year};
            case "lacks": return new int[] {random.nextInt() >> from(0, 31)};
            case "money": return new int[] {from(0, 10 * most), from(0, most)};
            case "payment": return new int[] {loan, from(0, 2000), from(1, 30)};
            case "rest": return new int[] {loan, from(0, 2000), from(1, 30), from(0, 30)};
            default: return new int[0];
        }
    }

    private static long ofObject(CostYears x, String name, int[] a) {
        switch (name) {
            case "index": return x.index(a[0], a[1]);
            case "budget": return x.budget(a[0], a[1]);
            case "part": return x.part(a[0], a[1]);
            case "moves": return x.moves(a[0], a[1], a[2], a[3]);
            case "care": return x.care(a[0], a[1], a[2]);
            case "share": return x.share(a[0], a[1], a[2]);
            case "cares": return x.cares(a[0], a[1]);
            case "most": return x.most(a[0], a[1]);
            case "work": return x.work(a[0], a[1], a[2], a[3]);
            case "join": return x.join(a[0], a[1], a[2]);
            case "clash": return x.clash(a[0], a[1], a[2] != 0) ? 1 : 0;
            case "needs": return x.needs(a[0], a[1]);
            case "choose": return x.choose();
            case "chosen": return x.chosen(a[0]) ? 1 : 0;
            case "costs": return x.costs(a[0]);
            case "lacks": return x.lacks(a[0]);
            case "money": x.money(a[0], a[1]); return 0;
            case "reserve": return x.reserve(a[0]);
            case "shortIn": return x.shortIn();
            case "payment": return x.payment(a[0], a[1], a[2]);
            default: return x.rest(a[0], a[1], a[2], a[3]);
        }
    }

    private static long ofModel(Model x, String name, int[] a) {
        switch (name) {
            case "index": return x.index(a[0], a[1]);
            case "budget": return x.budget(a[0], a[1]);
            case "part": return x.part(a[0], a[1]);
            case "moves": return x.moves(a[0], a[1], a[2], a[3]);
            case "care": return x.care(a[0], a[1], a[2]);
            case "share": return x.share(a[0], a[1], a[2]);
            case "cares": return x.cares(a[0], a[1]);
            case "most": return x.most(a[0], a[1]);
            case "work": return x.work(a[0], a[1], a[2], a[3]);
            case "join": return x.join(a[0], a[1], a[2]);
            case "clash": return x.clash(a[0], a[1], a[2] != 0);
            case "needs": return x.needs(a[0], a[1]);
            case "choose": return x.choose();
            case "chosen": return x.chosen(a[0]);
            case "costs": return x.costs(a[0]);
            case "lacks": return x.lacks(a[0]);
            case "money": return x.money(a[0], a[1]);
            case "reserve": return x.reserve(a[0]);
            case "shortIn": return x.shortIn();
            case "payment": return x.payment(a[0], a[1], a[2]);
            default: return x.rest(a[0], a[1], a[2], a[3]);
        }
    }
}
