/** A field of hot rock, its wells, uses and springs; the document (DOC.md) says what each call must do. */
public final class Steamfield {
    public static final int NONE = -1;
    public static final int GREEN = 0, AMBER = 1, RED = 2;

    private static final int BLOCKS = 12;
    private static final int IN_ROW = 4;
    private static final int MOST_WELLS = 10;
    private static final int MOST_USES = 6;
    private static final int MOST_SPRINGS = 4;
    private static final int KEPT_QUAKES = 60;

    private static final int FIRST_WATER = 10000;
    private static final int FIRST_DEGREES = 200;
    private static final int FIRST_WIDTH = 20;
    // The rock of a block holds as much heat as so much water does.
    private static final int ROCK = 20000;

    private static final int MOST_WATER = 50000;
    private static final int MOST_DEGREES = 350;
    private static final int MOST_WIDTH = 100;
    private static final int MOST_RAIN = 500;
    private static final int MOST_OPENING = 1000;
    private static final int MOST_WEIGHT = 10;
    private static final int MOST_LEAST = 100;
    private static final int MOST_DROP = 50;
    private static final int MOST_TRACER = 100000;
    private static final int MOST_MONTHS = 24;
    private static final int LAST_MONTH = 600;

    private static final int STEAM = 1, RIVER = 2, GIVEN = 3, RAINED = 4, SOLD = 5, POWER = 6, DRAWN = 7;
    private static final int SUMS = 8;

    private final Field now = new Field();
    // would() lets its months pass here: made once, so that no call makes anything.
    private final Field later = new Field();

    public Steamfield() {
    }

    // ---- what is told

    public int block(int block, int water, int degrees)
            throws IndexOutOfBoundsException, IllegalArgumentException, IllegalStateException {
        requireIndex(block, BLOCKS);
        requireRange(water, 0, MOST_WATER);
        requireRange(degrees, 0, MOST_DEGREES);
        requireState(now.month == 0);
        int had = (int) now.ground.water[block];
        now.ground.fill(block, water, degrees);
        return had;
    }

    public int crack(int block, int other, int width)
            throws IndexOutOfBoundsException, IllegalArgumentException {
        requireIndex(block, BLOCKS);
        requireIndex(other, BLOCKS);
        requireArgument(areNeighbours(block, other));
        requireRange(width, 0, MOST_WIDTH);
        return now.ground.setWidth(block, other, width);
    }

    public int rain(int much) throws IllegalArgumentException {
        requireRange(much, 0, MOST_RAIN);
        int was = now.rainfall;
        now.rainfall = much;
        return was;
    }

    public int well(int block, boolean isReturn) throws IndexOutOfBoundsException, IllegalStateException {
        requireIndex(block, BLOCKS);
        requireState(now.wells.size < MOST_WELLS);
        return now.wells.drill(block, isReturn);
    }

    public int open(int well, int much) throws IndexOutOfBoundsException, IllegalArgumentException {
        requireIndex(well, now.wells.size);
        requireRange(much, 0, now.wells.returns[well] ? MOST_WEIGHT : MOST_OPENING);
        int was = now.wells.setting[well];
        now.wells.setting[well] = much;
        return was;
    }

    public int clean(int well) throws IndexOutOfBoundsException, IllegalStateException {
        requireIndex(well, now.wells.size);
        requireState(!now.wells.returns[well]);
        int was = now.wells.scale[well];
        now.wells.scale[well] = 0;
        return was;
    }

    public int use(int least, int drop) throws IllegalArgumentException, IllegalStateException {
        requireRange(least, 0, MOST_LEAST);
        requireRange(drop, 1, MOST_DROP);
        requireState(now.uses.size < MOST_USES);
        return now.uses.add(least, drop);
    }

    public int spring(int block, int level, int promise)
            throws IndexOutOfBoundsException, IllegalArgumentException, IllegalStateException {
        requireIndex(block, BLOCKS);
        requireRange(level, 0, MOST_WATER);
        requireRange(promise, 0, MOST_WATER);
        requireState(now.springs.size < MOST_SPRINGS);
        return now.springs.add(block, level, promise);
    }

    public int promise(int spring, int promise) throws IndexOutOfBoundsException, IllegalArgumentException {
        requireIndex(spring, now.springs.size);
        requireRange(promise, 0, MOST_WATER);
        int was = now.springs.promised[spring];
        now.springs.promised[spring] = promise;
        return was;
    }

    public long tracer(int block, int much)
            throws IndexOutOfBoundsException, IllegalArgumentException, IllegalStateException {
        requireIndex(block, BLOCKS);
        requireRange(much, 1, MOST_TRACER);
        requireState(now.ground.water[block] > 0);
        now.ground.tracer[block] += much;
        return now.ground.tracer[block];
    }

    public int pass(int months) throws IllegalArgumentException, IllegalStateException {
        requireRange(months, 1, MOST_MONTHS);
        requireState(now.month + months <= LAST_MONTH);
        for (int m = 0; m < months; m++) {
            now.passMonth();
        }
        return now.month;
    }

    // ---- what is asked

    public long ofBlock(int block, int what) throws IndexOutOfBoundsException, IllegalArgumentException {
        requireIndex(block, BLOCKS);
        requireRange(what, 0, 5);
        return now.ground.tell(block, what);
    }

    public long would(int months, int block, int what)
            throws IndexOutOfBoundsException, IllegalArgumentException {
        requireIndex(block, BLOCKS);
        requireRange(months, 0, MOST_MONTHS);
        requireRange(what, 0, 5);
        later.copy(now);
        for (int m = 0; m < months; m++) {
            later.passMonth();
        }
        return later.ground.tell(block, what);
    }

    public long ofWell(int well, int what) throws IndexOutOfBoundsException, IllegalArgumentException {
        requireIndex(well, now.wells.size);
        requireRange(what, 0, 6);
        return now.wells.tell(well, what);
    }

    public long ofSpring(int spring, int what) throws IndexOutOfBoundsException, IllegalArgumentException {
        requireIndex(spring, now.springs.size);
        requireRange(what, 0, 4);
        return now.springs.tell(spring, what);
    }

    public int quake(int quake, int what) throws IndexOutOfBoundsException, IllegalArgumentException {
        requireIndex(quake, now.quakes.kept());
        requireRange(what, 0, 2);
        return now.quakes.tell(quake, what);
    }

    public int count(int what) throws IllegalArgumentException {
        requireRange(what, 0, 4);
        switch (what) {
            case 0: return now.month;
            case 1: return now.wells.size;
            case 2: return now.springs.size;
            case 3: return now.uses.size;
            default: return now.quakes.all;
        }
    }

    public long sum(int what) throws IllegalArgumentException {
        requireRange(what, 0, SUMS - 1);
        return what == 0 ? now.ground.allWater() : now.sums[what];
    }

    public int share() {
        long power = now.sums[POWER];
        long drawn = now.sums[DRAWN];
        return power > 0 && drawn > 0 ? bitsOf((float) power / (float) drawn) : 0;
    }

    private static void requireIndex(int index, int size) {
        if (index < 0 || index >= size) {
            throw new IndexOutOfBoundsException("there is no such number");
        }
    }

    private static void requireRange(int value, int least, int most) {
        requireArgument(value >= least && value <= most);
    }

    private static void requireArgument(boolean holds) {
        if (!holds) {
            throw new IllegalArgumentException("an argument is out of its range");
        }
    }

    private static void requireState(boolean holds) {
        if (!holds) {
            throw new IllegalStateException("not in this state");
        }
    }

    private static boolean areNeighbours(int block, int other) {
        int apart = block < other ? other - block : block - other;
        return apart == IN_ROW || apart == 1 && block / IN_ROW == other / IN_ROW;
    }

    /**
     * The bits of a float above 0 and below 1. Doubling loses nothing, so the float's own digits are read.
     * A share is no smaller than 1 divided by the greatest long, so its exponent stays far above 1.
     */
    private static int bitsOf(float share) {
        int exponent = 127;
        float digits = share;
        while (digits < 1 && exponent > 1) {
            digits = digits * 2;
            exponent--;
        }
        return (exponent << 23) + (int) ((digits - 1) * (1 << 23));
    }

    /** Blocks and the cracks between them. */
    private static final class Ground {
        final long[] water = new long[BLOCKS];
        final long[] heat = new long[BLOCKS];
        final long[] tracer = new long[BLOCKS];
        final long[] strain = new long[BLOCKS];
        // The width of the crack from a block to the next in its row, and to the one below it.
        private final int[] widthBeside = new int[BLOCKS];
        private final int[] widthBelow = new int[BLOCKS];
        // As they are ahead of the flow through all cracks.
        private final long[] waterAhead = new long[BLOCKS];
        private final long[] degreesAhead = new long[BLOCKS];
        private final long[] tracerAhead = new long[BLOCKS];

        Ground() {
            for (int b = 0; b < BLOCKS; b++) {
                fill(b, FIRST_WATER, FIRST_DEGREES);
                widthBeside[b] = FIRST_WIDTH;
                widthBelow[b] = FIRST_WIDTH;
            }
        }

        void copy(Ground other) {
            for (int b = 0; b < BLOCKS; b++) {
                water[b] = other.water[b];
                heat[b] = other.heat[b];
                tracer[b] = other.tracer[b];
                strain[b] = other.strain[b];
                widthBeside[b] = other.widthBeside[b];
                widthBelow[b] = other.widthBelow[b];
            }
        }

        void fill(int b, int newWater, int degrees) {
            water[b] = newWater;
            heat[b] = (long) degrees * (newWater + ROCK);
        }

        int setWidth(int block, int other, int width) {
            int low = Math.min(block, other);
            int[] widths = block / IN_ROW == other / IN_ROW ? widthBeside : widthBelow;
            int was = widths[low];
            widths[low] = width;
            return was;
        }

        long tell(int b, int what) {
            switch (what) {
                case 0: return water[b];
                case 1: return degrees(b);
                case 2: return heat[b];
                case 3: return tracer[b];
                case 4: return strain[b];
                default: return light(b);
            }
        }

        long allWater() {
            long all = 0;
            for (int b = 0; b < BLOCKS; b++) {
                all += water[b];
            }
            return all;
        }

        // Water is never below 0, so there is always the rock at least; a divisor is tested all the same.
        long degrees(int b) {
            long both = water[b] + ROCK;
            return both > 0 ? heat[b] / both : 0;
        }

        int light(int b) {
            if (strain[b] < 1000) {
                return GREEN;
            }
            return strain[b] < 2000 ? AMBER : RED;
        }

        /** Returns what goes of the tracer. */
        long give(int b, long much) {
            long gone = water[b] > 0 ? tracer[b] * much / water[b] : 0;
            heat[b] -= much * degrees(b);
            tracer[b] -= gone;
            water[b] -= much;
            return gone;
        }

        void take(int b, long much, long degrees) {
            water[b] += much;
            heat[b] += much * degrees;
        }

        void flowThroughCracks() {
            for (int b = 0; b < BLOCKS; b++) {
                waterAhead[b] = water[b];
                degreesAhead[b] = degrees(b);
                tracerAhead[b] = tracer[b];
            }
            for (int b = 0; b < BLOCKS; b++) {
                if (b + 1 < BLOCKS && areNeighbours(b, b + 1)) {
                    flowBetween(b, b + 1, widthBeside[b]);
                }
                if (b + IN_ROW < BLOCKS) {
                    flowBetween(b, b + IN_ROW, widthBelow[b]);
                }
            }
        }

        private void flowBetween(int block, int other, int width) {
            if (waterAhead[block] > waterAhead[other]) {
                flow(block, other, width);
            } else if (waterAhead[other] > waterAhead[block]) {
                flow(other, block, width);
            }
        }

        private void flow(int from, int to, int width) {
            long much = (waterAhead[from] - waterAhead[to]) * width / 1000;
            long carried = waterAhead[from] > 0 ? tracerAhead[from] * much / waterAhead[from] : 0;
            water[from] -= much;
            heat[from] -= much * degreesAhead[from];
            tracer[from] -= carried;
            take(to, much, degreesAhead[from]);
            tracer[to] += carried;
        }

        void warm(int b) {
            long degrees = degrees(b);
            if (degrees < 300) {
                heat[b] += 50 * (300 - degrees);
            }
        }
    }

    /** A row a fact; those that draw and those that return stand together, by their numbers. */
    private static final class Wells {
        int size = 0;
        final int[] place = new int[MOST_WELLS];
        final boolean[] returns = new boolean[MOST_WELLS];
        // The opening of one that draws, the weight of one that returns.
        final int[] setting = new int[MOST_WELLS];
        final int[] scale = new int[MOST_WELLS];
        // What it drew or returned in the latest month.
        final long[] moved = new long[MOST_WELLS];
        final boolean[] shut = new boolean[MOST_WELLS];
        private final long[] found = new long[MOST_WELLS];
        private final int[] foundFirst = new int[MOST_WELLS];

        int drill(int block, boolean isReturn) {
            int w = size;
            place[w] = block;
            returns[w] = isReturn;
            foundFirst[w] = NONE;
            size++;
            return w;
        }

        void copy(Wells other) {
            size = other.size;
            for (int w = 0; w < size; w++) {
                place[w] = other.place[w];
                returns[w] = other.returns[w];
                setting[w] = other.setting[w];
                scale[w] = other.scale[w];
                moved[w] = other.moved[w];
                shut[w] = other.shut[w];
                found[w] = other.found[w];
                foundFirst[w] = other.foundFirst[w];
            }
        }

        long tell(int w, int what) {
            switch (what) {
                case 0: return place[w];
                case 1: return setting[w];
                case 2: return scale[w];
                case 3: return moved[w];
                case 4: return shut[w] ? 1 : 0;
                case 5: return found[w];
                default: return foundFirst[w];
            }
        }

        boolean isDrawing(int w) {
            return !returns[w] && !shut[w];
        }

        boolean isReturning(int w) {
            return returns[w] && !shut[w];
        }

        long wouldDraw(int w) {
            return setting[w] * (100 - scale[w]) / 100;
        }

        void growScale(int w, long drawn) {
            scale[w] = (int) Math.min(scale[w] + 1 + drawn / 500, 100);
        }

        void find(int w, long much, int month) {
            found[w] += much;
            if (much > 0 && foundFirst[w] == NONE) {
                foundFirst[w] = month;
            }
        }

        long allWeight() {
            long all = 0;
            for (int w = 0; w < size; w++) {
                if (isReturning(w)) {
                    all += setting[w];
                }
            }
            return all;
        }
    }

    private static final class Uses {
        int size = 0;
        final int[] least = new int[MOST_USES];
        final int[] drop = new int[MOST_USES];

        int add(int newLeast, int newDrop) {
            int u = size;
            least[u] = newLeast;
            drop[u] = newDrop;
            size++;
            return u;
        }

        void copy(Uses other) {
            size = other.size;
            for (int u = 0; u < size; u++) {
                least[u] = other.least[u];
                drop[u] = other.drop[u];
            }
        }
    }

    private static final class Springs {
        int size = 0;
        final int[] place = new int[MOST_SPRINGS];
        final int[] level = new int[MOST_SPRINGS];
        final int[] promised = new int[MOST_SPRINGS];
        private final long[] gave = new long[MOST_SPRINGS];
        private final int[] dryMonths = new int[MOST_SPRINGS];
        // For each spring one after the other, the account of each well.
        private final long[] accounts = new long[MOST_SPRINGS * MOST_WELLS];

        int add(int block, int newLevel, int newPromise) {
            int s = size;
            place[s] = block;
            level[s] = newLevel;
            promised[s] = newPromise;
            size++;
            return s;
        }

        void copy(Springs other) {
            size = other.size;
            for (int s = 0; s < size; s++) {
                place[s] = other.place[s];
                level[s] = other.level[s];
                promised[s] = other.promised[s];
                gave[s] = other.gave[s];
                dryMonths[s] = other.dryMonths[s];
            }
            for (int a = 0; a < size * MOST_WELLS; a++) {
                accounts[a] = other.accounts[a];
            }
        }

        long tell(int s, int what) {
            switch (what) {
                case 0: return place[s];
                case 1: return gave[s];
                case 2: return promised[s];
                case 3: return dryMonths[s];
                default: return toBlame(s);
            }
        }

        private int toBlame(int s) {
            int blamed = NONE;
            long most = 0;
            for (int w = 0; w < MOST_WELLS; w++) {
                long account = accounts[s * MOST_WELLS + w];
                if (account > most) {
                    most = account;
                    blamed = w;
                }
            }
            return blamed;
        }

        boolean isNear(int s, int block) {
            return place[s] == block || areNeighbours(place[s], block);
        }

        void charge(int w, int block, long drawn) {
            for (int s = 0; s < size; s++) {
                if (isNear(s, block)) {
                    accounts[s * MOST_WELLS + w] += drawn;
                }
            }
        }

        void note(int s, long much) {
            gave[s] = much;
            if (much > 0) {
                dryMonths[s] = 0;
                clearAccounts(s);
            } else {
                dryMonths[s]++;
            }
        }

        private void clearAccounts(int s) {
            for (int w = 0; w < MOST_WELLS; w++) {
                accounts[s * MOST_WELLS + w] = 0;
            }
        }
    }

    private static final class Quakes {
        int all = 0;
        private final int[] months = new int[KEPT_QUAKES];
        private final int[] blocks = new int[KEPT_QUAKES];
        private final int[] sizes = new int[KEPT_QUAKES];

        int kept() {
            return Math.min(all, KEPT_QUAKES);
        }

        void add(int month, int block, int size) {
            if (all < KEPT_QUAKES) {
                months[all] = month;
                blocks[all] = block;
                sizes[all] = size;
            }
            all++;
        }

        void copy(Quakes other) {
            all = other.all;
            for (int q = 0; q < kept(); q++) {
                months[q] = other.months[q];
                blocks[q] = other.blocks[q];
                sizes[q] = other.sizes[q];
            }
        }

        int tell(int q, int what) {
            switch (what) {
                case 0: return months[q];
                case 1: return blocks[q];
                default: return sizes[q];
            }
        }
    }

    /** All that a month changes, so that would() may let months pass in a copy of it. */
    private static final class Field {
        int month = 0;
        int rainfall = 0;
        final Ground ground = new Ground();
        final Wells wells = new Wells();
        final Uses uses = new Uses();
        final Springs springs = new Springs();
        final Quakes quakes = new Quakes();
        final long[] sums = new long[SUMS];
        // The brine of the month that passes: how much, its degrees added up, and its degrees.
        private long brine = 0;
        private long brineHeat = 0;
        private long brineDegrees = 0;

        void copy(Field other) {
            month = other.month;
            rainfall = other.rainfall;
            ground.copy(other.ground);
            wells.copy(other.wells);
            uses.copy(other.uses);
            springs.copy(other.springs);
            quakes.copy(other.quakes);
            for (int k = 0; k < SUMS; k++) {
                sums[k] = other.sums[k];
            }
        }

        void passMonth() {
            month++;
            shutWells();
            drawFromWells();
            sellHeat();
            giveBack();
            shake();
            ground.flowThroughCracks();
            rainAndWarm();
            feedSprings();
        }

        private void shutWells() {
            for (int w = 0; w < wells.size; w++) {
                wells.moved[w] = 0;
                wells.shut[w] = mustShut(w);
            }
        }

        private boolean mustShut(int w) {
            int block = wells.place[w];
            if (wells.returns[w]) {
                return ground.light(block) == RED;
            }
            for (int s = 0; s < springs.size; s++) {
                if (springs.isNear(s, block) && ground.water[springs.place[s]] < springs.promised[s]) {
                    return true;
                }
            }
            return false;
        }

        private void drawFromWells() {
            brine = 0;
            brineHeat = 0;
            for (int w = 0; w < wells.size; w++) {
                if (wells.isDrawing(w)) {
                    draw(w);
                }
            }
        }

        private void draw(int w) {
            int block = wells.place[w];
            long degrees = ground.degrees(block);
            long drawn = Math.min(wells.wouldDraw(w), ground.water[block] / 10);
            long steam = degrees > 100 ? drawn * Math.min(degrees - 100, 200) / 400 : 0;
            wells.moved[w] = drawn;
            wells.find(w, ground.give(block, drawn), month);
            brine += drawn - steam;
            brineHeat += (drawn - steam) * Math.min(degrees, 100);
            sums[STEAM] += steam;
            sums[POWER] += steam * Math.max(degrees - 60, 0) / 10;
            sums[DRAWN] += drawn * degrees;
            if (degrees > 160 && drawn > 0) {
                wells.growScale(w, drawn);
            }
            springs.charge(w, block, drawn);
        }

        private void sellHeat() {
            brineDegrees = brine > 0 ? brineHeat / brine : 0;
            for (int u = 0; u < uses.size; u++) {
                if (brine > 0 && brineDegrees >= uses.least[u]) {
                    long taken = Math.min(uses.drop[u], brineDegrees);
                    sums[SOLD] += taken * brine;
                    brineDegrees -= taken;
                }
            }
        }

        // All parts are set by the lights ahead of the first that is taken.
        private void giveBack() {
            long weights = wells.allWeight();
            long left = brine;
            for (int w = 0; w < wells.size; w++) {
                if (wells.isReturning(w)) {
                    wells.moved[w] = part(w, weights);
                    left -= wells.moved[w];
                }
            }
            sums[RIVER] += left;
            for (int w = 0; w < wells.size; w++) {
                if (wells.isReturning(w)) {
                    ground.take(wells.place[w], wells.moved[w], brineDegrees);
                    ground.strain[wells.place[w]] += wells.moved[w];
                }
            }
        }

        private long part(int w, long weights) {
            long whole = weights > 0 ? brine * wells.setting[w] / weights : 0;
            return ground.light(wells.place[w]) == AMBER ? whole / 2 : whole;
        }

        private void shake() {
            for (int b = 0; b < BLOCKS; b++) {
                long strain = ground.strain[b];
                if (strain > 3000) {
                    quakes.add(month, b, (int) (strain / 1000));
                    strain = strain / 2;
                }
                ground.strain[b] = strain - strain / 10;
            }
        }

        private void rainAndWarm() {
            for (int b = 0; b < BLOCKS; b++) {
                if (b >= BLOCKS - IN_ROW) {
                    ground.take(b, rainfall, 80);
                    sums[RAINED] += rainfall;
                }
                ground.warm(b);
            }
        }

        private void feedSprings() {
            for (int s = 0; s < springs.size; s++) {
                int block = springs.place[s];
                long water = ground.water[block];
                long gives = water >= springs.level[s] ? Math.min(water / 100, 50) : 0;
                ground.give(block, gives);
                springs.note(s, gives);
                sums[GIVEN] += gives;
            }
        }
    }
}
