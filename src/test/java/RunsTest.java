import java.util.Random;

/**
 * Runs of calls on one object, up to 512 of them, each answer beside that of the Model.
 * The seeds are written here, so every run is the same each time.
 */
public final class RunsTest {
    private static final int RUNS = 1500;
    private static final int LONG_RUN = 512;
    // So short that all that an object tells can be asked behind it, within 512 calls.
    private static final int SHORT_RUN = 150;
    private static final int OPENING_CALLS = 40;

    private static final int BLOCK = 0, CRACK = 1, RAIN = 2, WELL = 3, OPEN = 4, CLEAN = 5, USE = 6, SPRING = 7,
        PROMISE = 8, TRACER = 9, PASS = 10, OF_BLOCK = 11, WOULD = 12, OF_WELL = 13, OF_SPRING = 14, QUAKE = 15,
        COUNT = 16, SUM = 17, SHARE = 18;
    private static final String[] NAMES = {
        "block", "crack", "rain", "well", "open", "clean", "use", "spring", "promise", "tracer", "pass",
        "ofBlock", "would", "ofWell", "ofSpring", "quake", "count", "sum", "share"
    };
    private static final int[] TOLD_FIRST = {BLOCK, BLOCK, BLOCK, CRACK, WELL, WELL, OPEN, SPRING, USE, TRACER, RAIN};

    private static final String[] SIGHTS = {
        "a well that draws is shut", "a well that returns is shut", "a scale of 100", "tracer found",
        "a spring dry with one to blame", "more than 60 quakes", "month 600 is reached", "a block without water",
        "sold heat", "a block below 100 degrees", "a block above 300 degrees", "an amber block returned to"
    };
    private static final int[] seen = new int[SIGHTS.length];

    private final int run;
    private final Random random;
    private final int oneWrongIn;
    // Wells and springs crowd round one block, or quakes and blame would be rare.
    private final int favourite;
    private final int[] often = new int[NAMES.length];
    private final Steamfield x = new Steamfield();
    private final Model model = new Model();

    private RunsTest(int run) {
        this.run = run;
        random = new Random(run);
        oneWrongIn = run % 3 == 0 ? 6 : 60;
        favourite = random.nextInt(12);
        for (int n = 0; n < often.length; n++) {
            often[n] = 1 + random.nextInt(8);
        }
        often[PASS] += 30;
    }

    private int between(int from, int to) {
        if (random.nextInt(oneWrongIn) == 0) {
            return new int[] {from - 1, to + 1, Integer.MIN_VALUE, Integer.MAX_VALUE}[random.nextInt(4)];
        }
        int kind = random.nextInt(8);
        return kind == 0 || to <= from ? from : kind == 1 ? to : from + random.nextInt(to - from + 1);
    }

    private int rock() {
        return random.nextInt(2) == 0 ? favourite : between(0, 11);
    }

    private int neighbour(int rock) {
        int[] steps = {1, -1, 4, -4};
        return random.nextInt(10) == 0 ? between(0, 11) : rock + steps[random.nextInt(4)];
    }

    private int waterMark() {
        int kind = random.nextInt(4);
        return kind == 0 ? between(0, 50000) : kind == 1 ? between(0, 300) : between(5000, 12000);
    }

    private int much(int well) {
        boolean returns = well >= 0 && well < model.holes.size() && model.holes.get(well).returning;
        return returns ? between(0, 10) : random.nextBoolean() ? between(700, 1000) : between(0, 1000);
    }

    private int name(int call) {
        if (call < OPENING_CALLS) {
            return TOLD_FIRST[random.nextInt(TOLD_FIRST.length)];
        }
        int all = 0;
        for (int n : often) {
            all += n;
        }
        int pick = random.nextInt(all);
        int name = 0;
        while (pick >= often[name]) {
            pick -= often[name];
            name++;
        }
        return name;
    }

    private int[] arguments(int name) {
        int rock = rock();
        int well = between(0, model.holes.size() - 1);
        int spring = between(0, model.sources.size() - 1);
        switch (name) {
            case BLOCK: return new int[] {rock, random.nextInt(4) == 0 ? between(0, 200) : between(0, 50000), between(0, 350)};
            case CRACK: return new int[] {rock, neighbour(rock), between(0, 100)};
            case RAIN: return new int[] {between(0, 500)};
            case WELL: return new int[] {rock, random.nextInt(3) == 0 ? 1 : 0};
            case OPEN: return new int[] {well, much(well)};
            case CLEAN: return new int[] {well};
            case USE: return new int[] {between(0, 100), between(1, 50)};
            case SPRING: return new int[] {rock, waterMark(), random.nextInt(3) == 0 ? waterMark() : between(0, 3000)};
            case PROMISE: return new int[] {spring, waterMark()};
            case TRACER: return new int[] {rock, between(1, 100000)};
            case PASS: return new int[] {random.nextBoolean() ? between(1, 24) : between(1, 3)};
            case OF_BLOCK: return new int[] {rock, between(0, 5)};
            case WOULD: return new int[] {between(0, 24), rock, between(0, 5)};
            case OF_WELL: return new int[] {well, between(0, 6)};
            case OF_SPRING: return new int[] {spring, between(0, 4)};
            case QUAKE: return new int[] {between(0, Math.min(model.shocks.size(), 60) - 1), between(0, 2)};
            case COUNT: return new int[] {between(0, 4)};
            case SUM: return new int[] {between(0, 7)};
            default: return new int[0];
        }
    }

    private static long ask(Steamfield x, int name, int[] a) {
        switch (name) {
            case BLOCK: return x.block(a[0], a[1], a[2]);
            case CRACK: return x.crack(a[0], a[1], a[2]);
            case RAIN: return x.rain(a[0]);
            case WELL: return x.well(a[0], a[1] == 1);
            case OPEN: return x.open(a[0], a[1]);
            case CLEAN: return x.clean(a[0]);
            case USE: return x.use(a[0], a[1]);
            case SPRING: return x.spring(a[0], a[1], a[2]);
            case PROMISE: return x.promise(a[0], a[1]);
            case TRACER: return x.tracer(a[0], a[1]);
            case PASS: return x.pass(a[0]);
            case OF_BLOCK: return x.ofBlock(a[0], a[1]);
            case WOULD: return x.would(a[0], a[1], a[2]);
            case OF_WELL: return x.ofWell(a[0], a[1]);
            case OF_SPRING: return x.ofSpring(a[0], a[1]);
            case QUAKE: return x.quake(a[0], a[1]);
            case COUNT: return x.count(a[0]);
            case SUM: return x.sum(a[0]);
            default: return x.share();
        }
    }

    private static long ask(Model m, int name, int[] a) {
        switch (name) {
            case BLOCK: return m.block(a[0], a[1], a[2]);
            case CRACK: return m.crack(a[0], a[1], a[2]);
            case RAIN: return m.rain(a[0]);
            case WELL: return m.well(a[0], a[1] == 1);
            case OPEN: return m.open(a[0], a[1]);
            case CLEAN: return m.clean(a[0]);
            case USE: return m.use(a[0], a[1]);
            case SPRING: return m.spring(a[0], a[1], a[2]);
            case PROMISE: return m.promise(a[0], a[1]);
            case TRACER: return m.tracer(a[0], a[1]);
            case PASS: return m.pass(a[0]);
            case OF_BLOCK: return m.ofBlock(a[0], a[1]);
            case WOULD: return m.would(a[0], a[1], a[2]);
            case OF_WELL: return m.ofWell(a[0], a[1]);
            case OF_SPRING: return m.ofSpring(a[0], a[1]);
            case QUAKE: return m.quake(a[0], a[1]);
            case COUNT: return m.count(a[0]);
            case SUM: return m.sum(a[0]);
            default: return m.share();
        }
    }

    private String due(int name, int[] a) {
        try {
            return Long.toString(ask(model, name, a));
        } catch (IndexOutOfBoundsException | IllegalArgumentException | IllegalStateException e) {
            return "throws " + e.getClass().getSimpleName();
        }
    }

    private void compare(int name, int... a) {
        String call = "run " + run + ": " + NAMES[name] + java.util.Arrays.toString(a);
        Check.same(call, due(name, a), Check.outcome(x, y -> ask(y, name, a)));
    }

    private void compareAll() {
        compareTable(OF_BLOCK, 12, 6);
        compareTable(OF_WELL, model.holes.size(), 7);
        compareTable(OF_SPRING, model.sources.size(), 5);
        compareTable(QUAKE, Math.min(model.shocks.size(), 60), 3);
        for (int what = 0; what <= 4; what++) {
            compare(COUNT, what);
        }
        for (int what = 0; what <= 7; what++) {
            compare(SUM, what);
        }
        compare(SHARE);
    }

    private void compareTable(int name, int rows, int whats) {
        for (int row = 0; row < rows; row++) {
            for (int what = 0; what < whats; what++) {
                compare(name, row, what);
            }
        }
    }

    private void play() {
        boolean isLong = run % 2 == 0;
        int calls = isLong ? LONG_RUN : SHORT_RUN;
        for (int call = 0; call < calls; call++) {
            int name = name(call);
            compare(name, arguments(name));
            look();
        }
        if (!isLong) {
            compareAll();
        }
    }

    private void look() {
        for (Model.Hole h : model.holes) {
            see(0, h.shut && !h.returning);
            see(1, h.shut && h.returning);
            see(2, h.scale == 100);
            see(3, h.found > 0);
            see(11, h.returning && h.moved > 0 && model.rocks[h.rock].light().equals("AMBER"));
        }
        for (int s = 0; s < model.sources.size(); s++) {
            see(4, model.ofSpring(s, 3) > 0 && model.ofSpring(s, 4) >= 0);
        }
        see(5, model.shocks.size() > 60);
        see(6, model.month == 600);
        see(8, model.sold > 0);
        for (Model.Rock r : model.rocks) {
            see(7, r.water == 0);
            see(9, r.degrees() < 100);
            see(10, r.degrees() > 300);
        }
    }

    private static void see(int sight, boolean there) {
        if (there) {
            seen[sight]++;
        }
    }

    public static void main(String[] args) {
        for (int run = 0; run < RUNS; run++) {
            new RunsTest(run).play();
        }
        for (int sight = 0; sight < SIGHTS.length; sight++) {
            System.out.println("  " + SIGHTS[sight] + ": " + seen[sight] + " times");
            Check.holds("the runs never came to: " + SIGHTS[sight], seen[sight] > 0);
        }
        Check.end("RunsTest");
    }
}
