/** Each promise and each step of a month, with answers worked out by hand from the document. */
public final class PromisesTest {
    private static final String INDEX = Check.INDEX;
    private static final String ARGUMENT = Check.ARGUMENT;
    private static final String STATE = Check.STATE;
    private static final int FAR_DOWN = Integer.MIN_VALUE;
    private static final int FAR_UP = Integer.MAX_VALUE;

    private static void due(String what, long want, long got) {
        Check.due(what, want, got);
    }

    private static void refused(String what, String exception, Check.Made made, Check.Call call) {
        Check.refused(what, exception, made, call);
    }

    private static void constants() {
        due("NONE", -1, Steamfield.NONE);
        due("GREEN", 0, Steamfield.GREEN);
        due("AMBER", 1, Steamfield.AMBER);
        due("RED", 2, Steamfield.RED);
    }

    private static void promise1() {
        Steamfield x = new Steamfield();
        for (int what = 0; what <= 4; what++) {
            due("new: count " + what, 0, x.count(what));
        }
        due("new: all water", 120000, x.sum(0));
        for (int what = 1; what <= 7; what++) {
            due("new: sum " + what, 0, x.sum(what));
        }
        due("new: share", 0, x.share());
        long[] want = {10000, 200, 6000000, 0, 0, Steamfield.GREEN};
        for (int block = 0; block < 12; block++) {
            for (int what = 0; what <= 5; what++) {
                due("new: ofBlock " + block + " " + what, want[what], x.ofBlock(block, what));
            }
        }
        due("new: rain", 0, x.rain(0));
        due("new: crack beside", 20, x.crack(0, 1, 20));
        due("new: crack below", 20, x.crack(7, 11, 20));
        refused("new: ofWell", INDEX, Setups::fresh, y -> y.ofWell(0, 0));
        refused("new: ofSpring", INDEX, Setups::fresh, y -> y.ofSpring(0, 0));
        refused("new: quake", INDEX, Setups::fresh, y -> y.quake(0, 0));
        Steamfield two = new Steamfield();
        two.rain(500);
        two.pass(1);
        due("one object leaves another", 0, x.count(0));
    }

    private static void promise2() {
        Steamfield x = new Steamfield();
        x.tracer(3, 77);
        due("block: had", 10000, x.block(3, 50000, 350));
        due("block: water", 50000, x.ofBlock(3, 0));
        due("block: degrees", 350, x.ofBlock(3, 1));
        due("block: heat", 350L * 70000, x.ofBlock(3, 2));
        due("block: tracer stays", 77, x.ofBlock(3, 3));
        due("block: had 50000", 50000, x.block(3, 0, 0));
        due("block: heat 0", 0, x.ofBlock(3, 2));
        due("block: tracer stays without water", 77, x.ofBlock(3, 3));
        due("block: had 0", 0, x.block(3, 1, 1));
        due("block: heat 1", 20001, x.ofBlock(3, 2));
        due("block: the one beside it stays", 10000, x.ofBlock(2, 0));
        due("block 11", 10000, x.block(11, 5, 5));
        for (int block : new int[] {-1, 12, FAR_DOWN, FAR_UP}) {
            refused("block " + block, INDEX, Setups::fresh, y -> y.block(block, 1, 1));
            refused("block " + block + ", all wrong", INDEX, Setups::fullLater, y -> y.block(block, -1, -1));
        }
        for (int water : new int[] {-1, 50001, FAR_DOWN, FAR_UP}) {
            refused("block water " + water, ARGUMENT, Setups::fresh, y -> y.block(0, water, 1));
        }
        for (int degrees : new int[] {-1, 351, FAR_DOWN, FAR_UP}) {
            refused("block degrees " + degrees, ARGUMENT, Setups::fresh, y -> y.block(0, 1, degrees));
        }
        refused("block: range ahead of state", ARGUMENT, Setups::fullLater, y -> y.block(0, 50001, 1));
        refused("block: a month has passed", STATE, Setups::fullLater, y -> y.block(0, 1, 1));
        x.would(24, 0, 0);
        due("block: would() passes no month", 5, x.block(11, 6, 6));
    }

    private static void promise3() {
        int[] steps = new int[12 * 12];
        int cracks = 0;
        Steamfield x = new Steamfield();
        for (int a = 0; a < 12; a++) {
            for (int b = 0; b < 12; b++) {
                boolean besides = Math.abs(a / 4 - b / 4) + Math.abs(a % 4 - b % 4) == 1;
                int one = a;
                int other = b;
                if (!besides) {
                    refused("crack " + a + " " + b, ARGUMENT, Setups::fresh, y -> y.crack(one, other, 1));
                } else if (a < b) {
                    cracks++;
                    due("crack: each was 20", 20, x.crack(a, b, cracks));
                    steps[a * 12 + b] = cracks;
                }
            }
        }
        due("there are 17 cracks", 17, cracks);
        for (int a = 0; a < 12; a++) {
            for (int b = 0; b < a; b++) {
                if (steps[b * 12 + a] != 0) {
                    due("crack: the same from the other side", steps[b * 12 + a], x.crack(a, b, 100));
                }
            }
        }
        due("crack 100", 100, x.crack(0, 4, 0));
        due("crack 0", 0, x.crack(4, 0, 1));
        for (int block : new int[] {-1, 12, FAR_DOWN, FAR_UP}) {
            refused("crack from " + block, INDEX, Setups::fresh, y -> y.crack(block, 0, 1));
            refused("crack to " + block, INDEX, Setups::fresh, y -> y.crack(0, block, 101));
        }
        refused("crack -1 0: index ahead of range", INDEX, Setups::fresh, y -> y.crack(-1, 0, -1));
        refused("crack 11 12", INDEX, Setups::fresh, y -> y.crack(11, 12, 1));
        for (int width : new int[] {-1, 101, FAR_DOWN, FAR_UP}) {
            refused("crack width " + width, ARGUMENT, Setups::fresh, y -> y.crack(0, 1, width));
        }
        Steamfield later = Setups.fullLater();
        due("crack when months have passed", 20, later.crack(1, 5, 3));
    }

    private static void promise4() {
        Steamfield x = new Steamfield();
        due("rain was", 0, x.rain(500));
        due("rain was", 500, x.rain(0));
        due("rain was", 0, x.rain(3));
        x.pass(2);
        due("rain each month in four blocks", 24, x.sum(4));
        due("rain stays", 3, x.rain(4));
        for (int much : new int[] {-1, 501, FAR_DOWN, FAR_UP}) {
            refused("rain " + much, ARGUMENT, Setups::fullLater, y -> y.rain(much));
        }
    }

    private static void promise5() {
        Steamfield x = new Steamfield();
        for (int k = 0; k < 10; k++) {
            due("well number", k, x.well(11 - k, k % 2 == 1));
            due("wells", k + 1, x.count(1));
        }
        for (int k = 0; k < 10; k++) {
            long[] want = {11 - k, 0, 0, 0, 0, 0, Steamfield.NONE};
            for (int what = 0; what <= 6; what++) {
                due("a new well " + k + " " + what, want[what], x.ofWell(k, what));
            }
        }
        for (int block : new int[] {-1, 12, FAR_DOWN, FAR_UP}) {
            refused("well in " + block, INDEX, Setups::fresh, y -> y.well(block, false));
            refused("well in " + block + " beyond 10", INDEX, Setups::full, y -> y.well(block, true));
        }
        refused("an 11th well", STATE, Setups::full, y -> y.well(0, false));
        refused("an 11th well that returns", STATE, Setups::full, y -> y.well(0, true));
    }

    private static void promise6() {
        Steamfield x = new Steamfield();
        x.well(0, false);
        x.well(0, true);
        due("open was", 0, x.open(0, 1000));
        due("open was", 1000, x.open(0, 0));
        due("open was", 0, x.open(0, 11));
        due("weight was", 0, x.open(1, 10));
        due("weight was", 10, x.open(1, 0));
        due("weight was", 0, x.open(1, 4));
        due("ofWell tells the opening", 11, x.ofWell(0, 1));
        due("ofWell tells the weight", 4, x.ofWell(1, 1));
        for (int well : new int[] {-1, 10, FAR_DOWN, FAR_UP}) {
            refused("open " + well, INDEX, Setups::full, y -> y.open(well, -1));
        }
        refused("open with no well", INDEX, Setups::fresh, y -> y.open(0, 0));
        for (int much : new int[] {-1, 1001, FAR_DOWN, FAR_UP}) {
            refused("opening " + much, ARGUMENT, Setups::full, y -> y.open(0, much));
        }
        for (int much : new int[] {-1, 11, 1000, FAR_DOWN, FAR_UP}) {
            refused("weight " + much, ARGUMENT, Setups::full, y -> y.open(9, much));
        }
    }

    private static void promise7() {
        Steamfield x = Setups.still(50000, 300);
        Setups.drill(x, 0, false, 1000);
        Setups.drill(x, 1, false, 1000);
        Setups.drill(x, 2, true, 10);
        x.pass(1);
        due("scale of one month", 3, x.ofWell(0, 2));
        due("clean was", 3, x.clean(0));
        due("clean clears", 0, x.ofWell(0, 2));
        due("clean leaves the others", 3, x.ofWell(1, 2));
        due("clean leaves the opening", 1000, x.ofWell(0, 1));
        due("clean twice", 0, x.clean(0));
        x.pass(1);
        due("a clean well draws all", 1000, x.ofWell(0, 3));
        due("a scaled well draws less", 970, x.ofWell(1, 3));
        for (int well : new int[] {-1, 10, FAR_DOWN, FAR_UP}) {
            refused("clean " + well, INDEX, Setups::fullLater, y -> y.clean(well));
        }
        refused("clean with no well", INDEX, Setups::fresh, y -> y.clean(0));
        refused("clean of one that returns", STATE, Setups::fullLater, y -> y.clean(5));
    }

    private static void promise8() {
        Steamfield x = new Steamfield();
        int[][] uses = {{0, 1}, {100, 50}, {0, 50}, {100, 1}, {50, 25}, {1, 2}};
        for (int k = 0; k < 6; k++) {
            due("use number", k, x.use(uses[k][0], uses[k][1]));
            due("uses", k + 1, x.count(3));
        }
        for (int least : new int[] {-1, 101, FAR_DOWN, FAR_UP}) {
            refused("use least " + least, ARGUMENT, Setups::fresh, y -> y.use(least, 1));
            refused("a 7th use, least " + least, ARGUMENT, Setups::full, y -> y.use(least, 1));
        }
        for (int drop : new int[] {-1, 0, 51, FAR_DOWN, FAR_UP}) {
            refused("use drop " + drop, ARGUMENT, Setups::fresh, y -> y.use(1, drop));
            refused("a 7th use, drop " + drop, ARGUMENT, Setups::full, y -> y.use(1, drop));
        }
        refused("a 7th use", STATE, Setups::full, y -> y.use(1, 1));
    }

    private static void promise9() {
        Steamfield x = new Steamfield();
        int[][] springs = {{0, 0, 50000}, {11, 50000, 0}, {11, 1, 2}, {5, 3, 4}};
        for (int k = 0; k < 4; k++) {
            due("spring number", k, x.spring(springs[k][0], springs[k][1], springs[k][2]));
            due("springs", k + 1, x.count(2));
            long[] want = {springs[k][0], 0, springs[k][2], 0, Steamfield.NONE};
            for (int what = 0; what <= 4; what++) {
                due("a new spring " + k + " " + what, want[what], x.ofSpring(k, what));
            }
        }
        for (int block : new int[] {-1, 12, FAR_DOWN, FAR_UP}) {
            refused("spring in " + block, INDEX, Setups::fresh, y -> y.spring(block, 1, 1));
            refused("spring in " + block + ", all wrong", INDEX, Setups::full, y -> y.spring(block, -1, -1));
        }
        for (int mark : new int[] {-1, 50001, FAR_DOWN, FAR_UP}) {
            refused("spring level " + mark, ARGUMENT, Setups::fresh, y -> y.spring(0, mark, 1));
            refused("spring promise " + mark, ARGUMENT, Setups::fresh, y -> y.spring(0, 1, mark));
            refused("a 5th spring, level " + mark, ARGUMENT, Setups::full, y -> y.spring(0, mark, 1));
            refused("a 5th spring, promise " + mark, ARGUMENT, Setups::full, y -> y.spring(0, 1, mark));
        }
        refused("a 5th spring", STATE, Setups::full, y -> y.spring(0, 1, 1));
    }

    private static void promise10() {
        Steamfield x = new Steamfield();
        x.spring(0, 0, 7);
        x.spring(0, 0, 8);
        due("promise was", 7, x.promise(0, 50000));
        due("promise was", 50000, x.promise(0, 0));
        due("promise was", 0, x.promise(0, 9));
        due("ofSpring tells the promise", 9, x.ofSpring(0, 2));
        due("promise leaves the others", 8, x.ofSpring(1, 2));
        for (int spring : new int[] {-1, 4, FAR_DOWN, FAR_UP}) {
            refused("promise " + spring, INDEX, Setups::full, y -> y.promise(spring, -1));
        }
        refused("promise with no spring", INDEX, Setups::fresh, y -> y.promise(0, 0));
        for (int mark : new int[] {-1, 50001, FAR_DOWN, FAR_UP}) {
            refused("promise of " + mark, ARGUMENT, Setups::full, y -> y.promise(3, mark));
        }
    }

    private static void promise11() {
        Steamfield x = new Steamfield();
        due("tracer", 1, x.tracer(0, 1));
        due("tracer more", 100001, x.tracer(0, 100000));
        due("tracer told", 100001, x.ofBlock(0, 3));
        due("tracer elsewhere", 0, x.ofBlock(1, 3));
        x.block(2, 1, 0);
        due("tracer in a drop", 5, x.tracer(2, 5));
        Steamfield much = new Steamfield();
        for (int k = 1; k <= 500; k++) {
            due("tracer adds up", 100000L * k, much.tracer(0, 100000));
        }
        much.pass(1);
        due("much tracer stays", 50000000, much.ofBlock(0, 3));
        for (int block : new int[] {-1, 12, FAR_DOWN, FAR_UP}) {
            refused("tracer in " + block, INDEX, Setups::fresh, y -> y.tracer(block, 0));
        }
        for (int amount : new int[] {-1, 0, 100001, FAR_DOWN, FAR_UP}) {
            refused("tracer of " + amount, ARGUMENT, Setups::fresh, y -> y.tracer(0, amount));
            refused("tracer of " + amount + " without water", ARGUMENT, () -> Setups.still(0, 0), y -> y.tracer(0, amount));
        }
        refused("tracer without water", STATE, () -> Setups.still(0, 0), y -> y.tracer(0, 1));
    }

    private static void promise12() {
        Steamfield x = new Steamfield();
        due("pass 1", 1, x.pass(1));
        due("pass 23", 24, x.pass(23));
        for (int month = 48; month <= 576; month += 24) {
            due("pass 24", month, x.pass(24));
        }
        due("pass to 599", 599, x.pass(23));
        Check.same("pass beyond 600", "throws " + STATE, Check.outcome(x, y -> y.pass(2)));
        Check.same("pass far beyond 600", "throws " + STATE, Check.outcome(x, y -> y.pass(24)));
        due("pass beyond 600 changes nothing", 599, x.count(0));
        due("pass to 600", 600, x.pass(1));
        Check.same("pass behind 600", "throws " + STATE, Check.outcome(x, y -> y.pass(1)));
        Check.same("pass: range ahead of state", "throws " + ARGUMENT, Check.outcome(x, y -> y.pass(25)));
        due("months at the end", 600, x.count(0));
        for (int months : new int[] {-1, 0, 25, FAR_DOWN, FAR_UP}) {
            refused("pass " + months, ARGUMENT, Setups::fullLater, y -> y.pass(months));
        }
        refused("pass beyond 600, from 599", STATE, Setups::nearTheEnd, y -> y.pass(2));
        Steamfield once = Setups.full();
        Steamfield slowly = Setups.full();
        once.pass(12);
        for (int k = 0; k < 12; k++) {
            slowly.pass(1);
        }
        Check.same("12 months at once, or one by one", Answers.all(once), Answers.all(slowly));
    }

    private static void promise13() {
        Steamfield x = Setups.cold(1000, 500);
        Setups.drill(x, 5, true, 1);
        x.tracer(5, 9);
        x.pass(1);
        // 1500 of 50 degrees are given back: 1350 of strain are left, and 250 of 300 degrees are missing.
        due("ofBlock water", 51500, x.ofBlock(5, 0));
        due("ofBlock heat", 50L * 71500 + 50 * 250, x.ofBlock(5, 2));
        due("ofBlock degrees", 50, x.ofBlock(5, 1));
        due("ofBlock tracer", 9, x.ofBlock(5, 3));
        due("ofBlock strain", 1350, x.ofBlock(5, 4));
        due("ofBlock light", Steamfield.AMBER, x.ofBlock(5, 5));
        for (int block : new int[] {-1, 12, FAR_DOWN, FAR_UP}) {
            refused("ofBlock " + block, INDEX, Setups::fullLater, y -> y.ofBlock(block, -1));
        }
        for (int what : new int[] {-1, 6, FAR_DOWN, FAR_UP}) {
            refused("ofBlock what " + what, ARGUMENT, Setups::fullLater, y -> y.ofBlock(0, what));
        }
    }

    private static void promise14() {
        Steamfield x = Setups.busy();
        String before = Answers.all(Setups.busy());
        for (int months = 0; months <= 24; months++) {
            Steamfield ahead = Setups.busy();
            for (int m = 0; m < months; m++) {
                ahead.pass(1);
            }
            int block = months % 12;
            for (int what = 0; what <= 5; what++) {
                due("would " + months, ahead.ofBlock(block, what), x.would(months, block, what));
            }
        }
        Check.same("would changes nothing", before, Answers.all(x));
        x = Setups.busy();
        x.would(24, 0, 0);
        x.pass(5);
        long water = x.would(7, 1, 0);
        x.open(0, 0);
        Check.holds("would goes by what is told now", water != x.would(7, 1, 0));
        x.open(0, 900);
        due("would of what is told again", water, x.would(7, 1, 0));
        x.pass(7);
        due("would comes true", water, x.ofBlock(1, 0));
        wouldBeyondTheEnd();
        for (int block : new int[] {-1, 12, FAR_DOWN, FAR_UP}) {
            refused("would of " + block, INDEX, Setups::full, y -> y.would(-1, block, -1));
        }
        for (int months : new int[] {-1, 25, FAR_DOWN, FAR_UP}) {
            refused("would in " + months, ARGUMENT, Setups::full, y -> y.would(months, 0, 0));
        }
        for (int what : new int[] {-1, 6, FAR_DOWN, FAR_UP}) {
            refused("would what " + what, ARGUMENT, Setups::full, y -> y.would(0, 0, what));
        }
    }

    private static void wouldBeyondTheEnd() {
        Steamfield x = Setups.still(0, 300);
        x.rain(10);
        for (int k = 0; k < 25; k++) {
            x.pass(24);
        }
        due("at the end", 6000, x.ofBlock(8, 0));
        due("would in no month", 6000, x.would(0, 8, 0));
        due("would beyond the end", 6010, x.would(1, 8, 0));
        due("would far beyond the end", 6240, x.would(24, 8, 0));
        due("still the end", 600, x.count(0));
        due("rain that would be is not counted", 24000, x.sum(4));
    }

    private static void promise15() {
        Steamfield x = Setups.still(10000, 300);
        Setups.drill(x, 5, false, 1000);
        Setups.drill(x, 6, true, 10);
        x.pass(1);
        long[] drawing = {5, 1000, 3, 1000, 0, 0, Steamfield.NONE};
        long[] returning = {6, 10, 0, 500, 0, 0, Steamfield.NONE};
        for (int what = 0; what <= 6; what++) {
            due("ofWell drawing " + what, drawing[what], x.ofWell(0, what));
            due("ofWell returning " + what, returning[what], x.ofWell(1, what));
        }
        x.tracer(5, 9);
        due("tracer is not found yet", 0, x.ofWell(0, 5));
        x.pass(1);
        // 900 of 9000, as a tenth is the most: a tenth of 9 rounds down to none.
        due("too little tracer is not found", 0, x.ofWell(0, 5));
        due("and has no month", Steamfield.NONE, x.ofWell(0, 6));
        x.tracer(5, 991);
        x.pass(1);
        due("tracer found", 100, x.ofWell(0, 5));
        due("the month of it", 3, x.ofWell(0, 6));
        x.pass(1);
        due("more tracer found", 190, x.ofWell(0, 5));
        due("the first month stays", 3, x.ofWell(0, 6));
        Steamfield least = Setups.still(10000, 300);
        least.tracer(5, 10);
        Setups.drill(least, 5, false, 1000);
        least.pass(1);
        due("a tenth of 10 is found", 1, least.ofWell(0, 5));
        due("in the first month", 1, least.ofWell(0, 6));
        due("a well drilled now", 2, x.well(5, false));
        due("drew nothing yet", 0, x.ofWell(2, 3));
        for (int well : new int[] {-1, 10, FAR_DOWN, FAR_UP}) {
            refused("ofWell " + well, INDEX, Setups::fullLater, y -> y.ofWell(well, -1));
        }
        for (int what : new int[] {-1, 7, FAR_DOWN, FAR_UP}) {
            refused("ofWell what " + what, ARGUMENT, Setups::fullLater, y -> y.ofWell(0, what));
        }
    }

    private static void promise16() {
        Steamfield x = Setups.still(10000, 300);
        x.spring(5, 9950, 0);
        x.pass(1);
        long[] gives = {5, 50, 0, 0, Steamfield.NONE};
        for (int what = 0; what <= 4; what++) {
            due("ofSpring that gives " + what, gives[what], x.ofSpring(0, what));
        }
        x.pass(1);
        due("at its level it gives", 50, x.ofSpring(0, 1));
        x.pass(1);
        due("below its level it gives none", 0, x.ofSpring(0, 1));
        due("dry for a month", 1, x.ofSpring(0, 3));
        x.pass(24);
        due("dry for 25 months", 25, x.ofSpring(0, 3));
        due("dry, and none to blame", Steamfield.NONE, x.ofSpring(0, 4));
        for (int spring : new int[] {-1, 4, FAR_DOWN, FAR_UP}) {
            refused("ofSpring " + spring, INDEX, Setups::fullLater, y -> y.ofSpring(spring, -1));
        }
        for (int what : new int[] {-1, 5, FAR_DOWN, FAR_UP}) {
            refused("ofSpring what " + what, ARGUMENT, Setups::fullLater, y -> y.ofSpring(0, what));
        }
        accountsNear();
        blame();
    }

    private static void accountsNear() {
        for (int block = 0; block < 12; block++) {
            for (int place = 0; place < 12; place++) {
                Steamfield x = Setups.still(10000, 300);
                x.spring(place, 50000, 0);
                Setups.drill(x, block, false, 7);
                x.pass(1);
                boolean near = Math.abs(block / 4 - place / 4) + Math.abs(block % 4 - place % 4) <= 1;
                due("well in " + block + ", spring in " + place, near ? 0 : Steamfield.NONE, x.ofSpring(0, 4));
            }
        }
    }

    private static void blame() {
        Steamfield x = Setups.still(10000, 300);
        x.spring(5, 50000, 0);
        x.spring(5, 0, 0);
        for (int k = 0; k < 4; k++) {
            x.well(5, false);
        }
        x.open(1, 10);
        x.open(2, 10);
        x.pass(1);
        due("of several the lowest", 1, x.ofSpring(0, 4));
        x.open(3, 15);
        x.pass(1);
        due("the greatest of all months", 1, x.ofSpring(0, 4));
        x.pass(1);
        due("the greatest is now another", 3, x.ofSpring(0, 4));
        due("one that gives blames none", Steamfield.NONE, x.ofSpring(1, 4));
        Steamfield again = Setups.still(10050, 300);
        again.spring(6, 10001, 0);
        again.spring(6, 0, 0);
        Setups.drill(again, 5, false, 10);
        again.pass(1);
        due("it gave, and all accounts are 0", Steamfield.NONE, again.ofSpring(0, 4));
        again.open(0, 0);
        again.pass(1);
        due("dry", 1, again.ofSpring(0, 3));
        due("dry with no account above 0", Steamfield.NONE, again.ofSpring(0, 4));
        again.open(0, 2);
        again.pass(1);
        due("dry with an account", 0, again.ofSpring(0, 4));
    }

    private static void promise17() {
        Steamfield x = Setups.cold(1000, 1000, 1000, 1000);
        Setups.drill(x, 9, true, 1);
        Setups.drill(x, 4, true, 1);
        x.pass(1);
        due("2000 each are no quake", 0, x.count(4));
        Steamfield y = Setups.twoQuakes();
        due("quakes", 2, y.count(4));
        int[][] want = {{1, 4, 4}, {1, 9, 4}};
        for (int quake = 0; quake < 2; quake++) {
            for (int what = 0; what <= 2; what++) {
                due("quake " + quake + " " + what, want[quake][what], y.quake(quake, what));
            }
        }
        refused("quake 2 of 2", INDEX, Setups::twoQuakes, z -> z.quake(2, 0));
        for (int quake : new int[] {-1, 60, FAR_DOWN, FAR_UP}) {
            refused("quake " + quake, INDEX, Setups::twoQuakes, z -> z.quake(quake, 3));
        }
        for (int what : new int[] {-1, 3, FAR_DOWN, FAR_UP}) {
            refused("quake what " + what, ARGUMENT, Setups::twoQuakes, z -> z.quake(1, what));
        }
        manyQuakes();
    }

    /** In the first month 4000 each, then half of it each, as both are AMBER then: always above 3000. */
    private static void manyQuakes() {
        Steamfield x = Setups.cold(1000, 1000, 1000, 1000, 1000, 1000, 1000, 1000);
        Setups.drill(x, 9, true, 1);
        Setups.drill(x, 4, true, 1);
        x.pass(24);
        x.pass(6);
        due("60 quakes", 60, x.count(4));
        Check.same("the last of 60", "30", Check.outcome(x, y -> y.quake(59, 0)));
        x.pass(1);
        due("62 quakes", 62, x.count(4));
        for (int quake = 0; quake < 60; quake++) {
            due("month of quake " + quake, quake / 2 + 1, x.quake(quake, 0));
            due("block of quake " + quake, quake % 2 == 0 ? 4 : 9, x.quake(quake, 1));
            due("size of quake " + quake, quake < 2 ? 4 : 3, x.quake(quake, 2));
        }
        Check.same("the first that is not kept", "throws " + INDEX, Check.outcome(x, y -> y.quake(60, 0)));
        Check.same("all are counted, not kept", "throws " + INDEX, Check.outcome(x, y -> y.quake(61, 0)));
    }

    private static void promise18() {
        Steamfield x = Setups.fullLater();
        int[] want = {3, 10, 4, 6, 0};
        for (int what = 0; what <= 4; what++) {
            due("count " + what, want[what], x.count(what));
        }
        due("count of quakes", 2, Setups.twoQuakes().count(4));
        for (int what : new int[] {-1, 5, FAR_DOWN, FAR_UP}) {
            refused("count " + what, ARGUMENT, Setups::fullLater, y -> y.count(what));
        }
    }

    private static void promise19() {
        Steamfield x = Setups.still(10000, 300);
        Setups.drill(x, 5, false, 1000);
        x.use(60, 30);
        x.spring(0, 0, 0);
        x.rain(25);
        x.pass(1);
        // 1000 of 300 degrees: 500 of steam, 500 of brine of 100 degrees, which loses 30 of them.
        long[] first = {120000 - 1000 - 50 + 100, 500, 500, 50, 100, 15000, 12000, 300000};
        for (int what = 0; what <= 7; what++) {
            due("sum " + what, first[what], x.sum(what));
        }
        x.open(0, 0);
        x.pass(1);
        long[] second = {first[0] - 50 + 100, 500, 500, 100, 200, 15000, 12000, 300000};
        for (int what = 0; what <= 7; what++) {
            due("sum of two months " + what, second[what], x.sum(what));
        }
        for (int what : new int[] {-1, 8, FAR_DOWN, FAR_UP}) {
            refused("sum " + what, ARGUMENT, Setups::fullLater, y -> y.sum(what));
        }
    }

    private static void promise20() {
        Steamfield x = Setups.still(10000, 300);
        due("share of none", 0, x.share());
        Setups.drill(x, 5, false, 1000);
        x.pass(1);
        due("share", Float.floatToIntBits(12000f / 300000f), x.share());
        x.pass(1);
        // The second month draws 900 of 300 degrees: 450 of steam.
        due("share of two months", Float.floatToIntBits(22800f / 570000f), x.share());
        Steamfield cold = Setups.cold(1000);
        cold.pass(1);
        due("drawn, and no power", 50000, cold.sum(7));
        due("share of no power", 0, cold.share());
        Steamfield icy = Setups.still(50000, 0);
        Setups.drill(icy, 0, false, 1000);
        icy.pass(1);
        due("drawn at 0 degrees", 0, icy.sum(7));
        due("share of nothing", 0, icy.share());
        Steamfield least = Setups.still(10, 101);
        Setups.drill(least, 0, false, 1);
        least.block(1, 50000, 101);
        Setups.drill(least, 1, false, 400);
        least.pass(1);
        // 400 times 1 divided by 400 is 1 of steam, of 41 degrees above 60: 4 of power; drawn are 401 of 101 degrees.
        due("a small share", Float.floatToIntBits(4f / 40501f), least.share());
    }

    private static void lights() {
        int[][] want = {{1110, 999, 0}, {1111, 1000, 1}, {2221, 1999, 1}, {2222, 2000, 2}, {3000, 2700, 2}};
        for (int[] row : want) {
            Steamfield x = Setups.cold(row[0] / 4, row[0] / 4, row[0] / 4, row[0] - row[0] / 4 * 3);
            Setups.drill(x, 11, true, 1);
            x.pass(1);
            due("strain of " + row[0], row[1], x.ofBlock(11, 4));
            due("light of " + row[1], row[2], x.ofBlock(11, 5));
            due("no quake of " + row[0], 0, x.count(4));
        }
    }

    private static void step1Shut() {
        Steamfield x = Setups.cold(750, 750, 750, 750);
        Setups.drill(x, 11, true, 1);
        x.pass(1);
        due("not shut while it is GREEN", 0, x.ofWell(4, 4));
        x.pass(1);
        due("shut when it is RED", 1, x.ofWell(4, 4));
        due("one that is shut returns none", 0, x.ofWell(4, 3));
        due("all is gone to the river", 3000, x.sum(2));
        due("strain of a shut one", 2700 - 270, x.ofBlock(11, 4));
        for (int promise : new int[] {9999, 10000, 10001}) {
            Steamfield y = Setups.still(10000, 300);
            y.spring(5, 50000, promise);
            int[] blocks = {5, 1, 4, 6, 9, 0, 10};
            for (int block : blocks) {
                Setups.drill(y, block, false, 10);
            }
            Setups.drill(y, 5, true, 1);
            y.pass(1);
            for (int well = 0; well < 8; well++) {
                int shut = promise == 10001 && well < 5 ? 1 : 0;
                due("promise " + promise + " shuts well " + well, shut, y.ofWell(well, 4));
                due("promise " + promise + " lets draw", well == 7 ? (7 - (promise == 10001 ? 5 : 0)) * 5 : (1 - shut) * 10, y.ofWell(well, 3));
            }
        }
        shutByAllAsItIsThen();
    }

    private static void shutByAllAsItIsThen() {
        Steamfield x = Setups.still(10000, 300);
        x.spring(5, 50000, 10000);
        Setups.drill(x, 5, false, 100);
        Setups.drill(x, 5, false, 100);
        x.pass(1);
        due("the first draw shuts no other in its month", 0, x.ofWell(1, 4));
        x.pass(1);
        due("but in the next", 1, x.ofWell(0, 4));
        due("both", 1, x.ofWell(1, 4));
        x.promise(0, 9800);
        x.pass(1);
        due("and opens again", 0, x.ofWell(0, 4));
        due("the latest month is told", 100 * 99 / 100, x.ofWell(0, 3));
    }

    private static void step2Draw() {
        // degrees, opening; steam, power, scale
        int[][] want = {
            {350, 1000, 500, 500 * 290 / 10, 3}, {301, 1000, 500, 500 * 241 / 10, 3}, {300, 1000, 500, 12000, 3},
            {299, 1000, 497, 497 * 239 / 10, 3}, {161, 1000, 152, 152 * 101 / 10, 3}, {160, 1000, 150, 1500, 0},
            {101, 1000, 2, 8, 0}, {101, 399, 0, 0, 0}, {100, 1000, 0, 0, 0}, {0, 1000, 0, 0, 0},
            {300, 499, 249, 249 * 24, 1}, {300, 500, 250, 6000, 2}, {300, 1, 0, 0, 1}, {300, 0, 0, 0, 0}
        };
        for (int[] row : want) {
            Steamfield x = Setups.still(10000, row[0]);
            Setups.drill(x, 5, false, row[1]);
            x.pass(1);
            String what = row[1] + " of " + row[0] + " degrees: ";
            due(what + "drawn", row[1], x.ofWell(0, 3));
            due(what + "steam", row[2], x.sum(1));
            due(what + "brine", row[1] - row[2], x.sum(2));
            due(what + "power", row[3], x.sum(6));
            due(what + "scale", row[4], x.ofWell(0, 2));
            due(what + "drawn times degrees", row[1] * row[0], x.sum(7));
            due(what + "water", 10000 - row[1], x.ofBlock(5, 0));
            long heat = (long) row[0] * (30000 - row[1]);
            due(what + "heat", heat + 50 * Math.max(300 - row[0], 0), x.ofBlock(5, 2));
        }
        tenth();
        scaleGrows();
    }

    private static void tenth() {
        Steamfield x = Setups.still(9999, 300);
        Setups.drill(x, 5, false, 1000);
        Setups.drill(x, 5, false, 1000);
        x.tracer(5, 10000);
        x.pass(1);
        due("a tenth", 999, x.ofWell(0, 3));
        due("a tenth of what is left", 900, x.ofWell(1, 3));
        due("tracer of 999 in 9999", 999, x.ofWell(0, 5));
        due("tracer of 900 in 9000", 900, x.ofWell(1, 5));
        due("tracer left", 8101, x.ofBlock(5, 3));
        Steamfield dry = Setups.still(9, 300);
        Setups.drill(dry, 5, false, 1000);
        dry.tracer(5, 100);
        dry.pass(1);
        due("less than ten gives none", 0, dry.ofWell(0, 3));
        due("and no scale", 0, dry.ofWell(0, 2));
        due("not shut", 0, dry.ofWell(0, 4));
        Steamfield none = Setups.still(0, 300);
        Setups.drill(none, 5, false, 1000);
        none.pass(2);
        due("no water gives none", 0, none.ofWell(0, 3));
    }

    private static void scaleGrows() {
        Steamfield x = Setups.still(50000, 350);
        Setups.drill(x, 5, false, 1000);
        long[] draws = {1000, 970, 950, 930, 910};
        for (long draw : draws) {
            x.pass(1);
            due("scaled", draw, x.ofWell(0, 3));
        }
        x.open(0, 1);
        x.clean(0);
        x.pass(1);
        due("a scale of 1 leaves 0 of 1", 1, x.ofWell(0, 2));
        x.pass(1);
        due("0 of 1 is drawn", 0, x.ofWell(0, 3));
        due("and the scale stays", 1, x.ofWell(0, 2));
        Steamfield y = Setups.still(50000, 350);
        Setups.drill(y, 5, false, 1000);
        y.rain(500);
        for (int k = 0; k < 25; k++) {
            y.pass(24);
        }
        due("the scale is 100 at most", 100, y.ofWell(0, 2));
        due("and shuts all off", 0, y.ofWell(0, 3));
    }

    private static void step3Sell() {
        // 1000 of 50 degrees and 500 of 100: 1500 of 66 degrees.
        int[][] uses = {{67, 10}, {66, 10}, {57, 1}, {56, 50}, {7, 1}, {0, 50}};
        long[] sold = {0, 15000, 15000, 90000, 90000, 99000};
        for (int most = 0; most < 6; most++) {
            Steamfield x = Setups.still(10000, 300);
            x.block(5, 10000, 50);
            Setups.drill(x, 5, false, 1000);
            Setups.drill(x, 10, false, 1000);
            Setups.drill(x, 0, true, 1);
            for (int k = 0; k <= most; k++) {
                x.use(uses[k][0], uses[k][1]);
            }
            x.pass(1);
            due("sold to " + (most + 1), sold[most], x.sum(5));
            long left = 66 - sold[most] / 1500;
            long heat = 300L * 30000 + left * 1500;
            long missing = Math.max(300 - heat / 31500, 0);
            due("given back of " + left + " degrees", heat + 50 * missing, x.ofBlock(0, 2));
        }
        Steamfield hot = Setups.still(10000, 300);
        Setups.drill(hot, 5, false, 1000);
        hot.use(100, 50);
        hot.use(51, 50);
        hot.use(50, 50);
        hot.pass(1);
        due("brine has 100 degrees at most, and loses 50 twice", 500 * 50 * 2, hot.sum(5));
        Steamfield drop = Setups.cold(1);
        drop.use(51, 50);
        drop.use(50, 49);
        drop.use(1, 50);
        drop.pass(1);
        due("of a drop of 50 degrees 49 and 1 are sold", 50, drop.sum(5));
        Steamfield none = Setups.still(10000, 300);
        none.use(0, 1);
        none.pass(3);
        due("nothing sold without brine", 0, none.sum(5));
    }

    private static void step4Return() {
        Steamfield x = Setups.cold(1000, 1);
        Setups.drill(x, 8, true, 1);
        Setups.drill(x, 9, true, 2);
        Setups.drill(x, 10, true, 0);
        x.pass(1);
        due("a third", 333, x.ofWell(2, 3));
        due("two thirds", 667, x.ofWell(3, 3));
        due("no weight", 0, x.ofWell(4, 3));
        due("what is left", 1, x.sum(2));
        due("water", 50333, x.ofBlock(8, 0));
        due("strain", 333 - 33, x.ofBlock(8, 4));
        Steamfield first = Setups.still(50000, 50);
        Setups.drill(first, 0, true, 1);
        Setups.drill(first, 5, false, 1000);
        first.pass(1);
        due("the well 0 returns what a later one draws", 1000, first.ofWell(0, 3));
        due("none is left", 0, first.sum(2));
        due("the block 0 takes it", 51000, first.ofBlock(0, 0));
        due("strain of the block 0", 900, first.ofBlock(0, 4));
        Steamfield weightless = Setups.cold(1000);
        weightless.well(8, true);
        weightless.pass(1);
        due("weights of 0 return none", 0, weightless.ofWell(1, 3));
        due("all to the river", 1000, weightless.sum(2));
        due("none shut", 0, weightless.ofWell(1, 4));
        amber();
    }

    private static void amber() {
        Steamfield x = Setups.cold(1000, 1000, 1000, 1);
        Setups.drill(x, 8, true, 1);
        Setups.drill(x, 8, true, 1);
        x.pass(1);
        due("the light ahead of what is given back", 1500, x.ofWell(4, 3));
        due("for both", 1500, x.ofWell(5, 3));
        due("what is left", 1, x.sum(2));
        due("strain of both", 2700, x.ofBlock(8, 4));
        Steamfield y = Setups.cold(1000, 1000, 1);
        Setups.drill(y, 8, true, 1);
        Setups.drill(y, 9, true, 10);
        y.open(4, 0);
        y.pass(1);
        due("AMBER now", Steamfield.AMBER, y.ofBlock(8, 5));
        y.open(4, 1);
        y.pass(1);
        due("half of 1000", 500, y.ofWell(3, 3));
        due("all of 1000", 1000, y.ofWell(4, 3));
        due("the rest to the river", 501, y.sum(2));
        due("RED behind that", Steamfield.RED, y.ofBlock(8, 5));
        y.pass(1);
        due("a weight that is shut does not count", 2001, y.ofWell(4, 3));
    }

    private static void step5Quakes() {
        int[][] want = {{3000, 0, 2700}, {3001, 3, 1350}, {3999, 3, 1800}, {4000, 4, 1800}, {4021, 4, 1809}};
        for (int[] row : want) {
            Steamfield x = Setups.cold(1000, 1000, 1000, row[0] - 3000 > 1000 ? 1000 : row[0] - 3000, Math.max(row[0] - 4000, 0));
            Setups.drill(x, 11, true, 1);
            x.pass(1);
            due("quakes of " + row[0], row[1] > 0 ? 1 : 0, x.count(4));
            due("strain behind " + row[0], row[2], x.ofBlock(11, 4));
            if (row[1] > 0) {
                due("its month", 1, x.quake(0, 0));
                due("its block", 11, x.quake(0, 1));
                due("its size", row[1], x.quake(0, 2));
            }
        }
        Steamfield y = Setups.cold(9);
        Setups.drill(y, 11, true, 1);
        y.pass(1);
        due("a tenth of 9 is 0", 9, y.ofBlock(11, 4));
    }

    private static void step6Cracks() {
        Steamfield x = Setups.still(10000, 300);
        x.block(0, 20000, 350);
        x.block(2, 15000, 310);
        x.crack(0, 1, 100);
        x.crack(1, 2, 50);
        x.crack(1, 5, 100);
        x.tracer(0, 200);
        x.tracer(1, 1000);
        x.tracer(2, 59);
        x.pass(1);
        // To 1: 1000 of 350 degrees, with 10 of 200; 250 of 310 degrees, with 0 of 59.
        due("0: water", 19000, x.ofBlock(0, 0));
        due("0: heat", 350L * 39000, x.ofBlock(0, 2));
        due("0: tracer", 190, x.ofBlock(0, 3));
        due("1: water", 11250, x.ofBlock(1, 0));
        due("1: heat", 300L * 30000 + 350000 + 77500, x.ofBlock(1, 2));
        due("1: tracer", 1010, x.ofBlock(1, 3));
        due("2: water", 14750, x.ofBlock(2, 0));
        due("2: heat", 310L * 34750, x.ofBlock(2, 2));
        due("2: tracer", 59, x.ofBlock(2, 3));
        due("5: none, as 1 had no more ahead of it", 10000, x.ofBlock(5, 0));
        x.pass(1);
        due("5: then 125", 10125, x.ofBlock(5, 0));
        due("5: tracer then", 1010 * 125 / 11250, x.ofBlock(5, 3));
        due("all water stays", 135000, x.sum(0));
        Steamfield up = Setups.still(10000, 300);
        up.block(8, 11999, 300);
        up.crack(4, 8, 1);
        up.pass(1);
        due("rounded down, from the higher number", 10001, up.ofBlock(4, 0));
        due("from it", 11998, up.ofBlock(8, 0));
    }

    private static void step7RainAndWarmth() {
        Steamfield x = Setups.still(10000, 300);
        x.rain(500);
        x.pass(1);
        for (int block = 0; block < 12; block++) {
            due("rain on " + block, block < 8 ? 10000 : 10500, x.ofBlock(block, 0));
            // 9040000 divided by 30500 is 296: 4 degrees are missing behind the rain.
            due("heat of " + block, block < 8 ? 9000000 : 9040000 + 200, x.ofBlock(block, 2));
        }
        Steamfield y = Setups.still(10000, 299);
        y.block(0, 0, 0);
        y.block(1, 0, 301);
        y.pass(1);
        due("1 degree below 300", 299L * 30000 + 50, y.ofBlock(5, 2));
        due("300 degrees below 300", 15000, y.ofBlock(0, 2));
        due("above 300", 301L * 20000, y.ofBlock(1, 2));
    }

    private static void step8Springs() {
        int[][] want = {{5000, 50}, {4999, 49}, {50000, 50}, {100, 1}, {99, 0}, {0, 0}};
        for (int[] row : want) {
            Steamfield x = Setups.still(row[0], 300);
            x.spring(5, 0, 0);
            if (row[0] > 0) {
                x.tracer(5, 1000);
            }
            x.pass(1);
            due("gives of " + row[0], row[1], x.ofSpring(0, 1));
            due("dry of " + row[0], row[1] > 0 ? 0 : 1, x.ofSpring(0, 3));
            due("given", row[1], x.sum(3));
            due("water left", row[0] - row[1], x.ofBlock(5, 0));
            due("heat left", 300L * (row[0] + 20000 - row[1]), x.ofBlock(5, 2));
            due("tracer left", row[0] == 0 ? 0 : 1000 - 1000 * row[1] / row[0], x.ofBlock(5, 3));
        }
        Steamfield rises = Setups.still(10000, 300);
        rises.rain(500);
        rises.spring(8, 10600, 0);
        rises.pass(1);
        due("below its level", 1, rises.ofSpring(0, 3));
        rises.pass(1);
        due("above its level", 50, rises.ofSpring(0, 1));
        due("not dry any more", 0, rises.ofSpring(0, 3));
        Steamfield two = Setups.still(10000, 300);
        two.spring(5, 9951, 0);
        two.spring(5, 9951, 0);
        two.spring(5, 9950, 0);
        two.pass(1);
        due("the first gives", 50, two.ofSpring(0, 1));
        due("which leaves the second dry", 0, two.ofSpring(1, 1));
        due("but not the third", 50, two.ofSpring(2, 1));
        due("the second is dry", 1, two.ofSpring(1, 3));
    }

    public static void main(String[] args) {
        constants();
        promise1();
        promise2();
        promise3();
        promise4();
        promise5();
        promise6();
        promise7();
        promise8();
        promise9();
        promise10();
        promise11();
        promise12();
        promise13();
        promise14();
        promise15();
        promise16();
        promise17();
        promise18();
        promise19();
        promise20();
        lights();
        step1Shut();
        step2Draw();
        step3Sell();
        step4Return();
        step5Quakes();
        step6Cracks();
        step7RainAndWarmth();
        step8Springs();
        Check.end("PromisesTest");
    }
}
