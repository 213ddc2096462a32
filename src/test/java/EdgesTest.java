/**
 * The sentences of the document that name a boundary, each with the value just within and the one just beyond, where
 * PromisesTest has none: the terms, the steps of a month, and what is empty or full. The sentence stands above its test.
 */
public final class EdgesTest {
    private static final String INDEX = Check.INDEX;
    private static final String ARGUMENT = Check.ARGUMENT;
    private static final String STATE = Check.STATE;

    private static void due(String what, long want, long got) {
        Check.due(what, want, got);
    }

    private static void refused(String what, String exception, Check.Made made, Check.Call call) {
        Check.refused(what, exception, made, call);
    }

    // "If several apply, the one that the throws clause names first is thrown."
    private static void firstNamedIsThrown() {
        Check.Made later = Setups::fullLater;
        Check.Made fresh = Setups::fresh;
        refused("block: index ahead of state", INDEX, later, x -> x.block(12, 1, 1));
        refused("block: index ahead of range", INDEX, fresh, x -> x.block(12, 50001, 1));
        refused("block: degrees ahead of state", ARGUMENT, later, x -> x.block(0, 1, 351));
        refused("block: water ahead of state", ARGUMENT, later, x -> x.block(0, -1, 1));
        refused("crack: index ahead of neighbours", INDEX, fresh, x -> x.crack(0, 12, 1));
        refused("crack: index ahead of width", INDEX, fresh, x -> x.crack(-1, 3, 101));
        refused("crack: neither neighbours nor a width", ARGUMENT, fresh, x -> x.crack(3, 4, 101));
        refused("well: index ahead of state", INDEX, later, x -> x.well(12, false));
        refused("open: index ahead of range", INDEX, later, x -> x.open(10, 1001));
        refused("use: range ahead of state", ARGUMENT, later, x -> x.use(101, 51));
        refused("spring: index ahead of state", INDEX, later, x -> x.spring(12, 1, 1));
        refused("spring: index ahead of range", INDEX, fresh, x -> x.spring(-1, 50001, 1));
        refused("spring: level ahead of state", ARGUMENT, later, x -> x.spring(0, 50001, 1));
        refused("spring: promise ahead of state", ARGUMENT, later, x -> x.spring(0, 1, -1));
        refused("promise: index ahead of range", INDEX, later, x -> x.promise(4, 50001));
        refused("tracer: index ahead of range", INDEX, later, x -> x.tracer(12, 100001));
        refused("tracer: range ahead of state", ARGUMENT, () -> Setups.still(0, 0), x -> x.tracer(11, 100001));
        refused("pass: range ahead of state", ARGUMENT, Setups::nearTheEnd, x -> x.pass(25));
        refused("ofBlock: index ahead of range", INDEX, later, x -> x.ofBlock(12, 6));
        refused("would: index ahead of months", INDEX, later, x -> x.would(25, 12, 0));
        refused("would: index ahead of range", INDEX, later, x -> x.would(0, 12, 6));
        refused("ofWell: index ahead of range", INDEX, later, x -> x.ofWell(10, 7));
        refused("ofSpring: index ahead of range", INDEX, later, x -> x.ofSpring(4, 5));
        refused("quake: index ahead of range", INDEX, Setups::twoQuakes, x -> x.quake(2, 3));
    }

    // "IndexOutOfBoundsException: there is no such WELL, SPRING or QUAKE": with none of them, there is not even the 0.
    private static void noneOfThem() {
        Check.Made fresh = Setups::fresh;
        refused("open, no wells", INDEX, fresh, x -> x.open(0, 1001));
        refused("clean, no wells", INDEX, fresh, x -> x.clean(0));
        refused("ofWell, no wells", INDEX, fresh, x -> x.ofWell(0, 7));
        refused("promise, no springs", INDEX, fresh, x -> x.promise(0, 50001));
        refused("ofSpring, no springs", INDEX, fresh, x -> x.ofSpring(0, 5));
        refused("quake, no quakes", INDEX, fresh, x -> x.quake(0, 3));
    }

    private static Steamfield oneEach() {
        Steamfield x = new Steamfield();
        x.well(3, false);
        x.spring(3, 9000, 1);
        return x;
    }

    // The same with one of them, ..
    private static void oneOfThem() {
        Check.Made one = EdgesTest::oneEach;
        Steamfield x = oneEach();
        due("open, one well", 0, x.open(0, 1));
        due("clean, one well", 0, x.clean(0));
        due("ofWell, one well", 3, x.ofWell(0, 0));
        due("promise, one spring", 1, x.promise(0, 2));
        due("ofSpring, one spring", 3, x.ofSpring(0, 0));
        refused("open, the second of one", INDEX, one, y -> y.open(1, 1));
        refused("clean, the second of one", INDEX, one, y -> y.clean(1));
        refused("ofWell, the second of one", INDEX, one, y -> y.ofWell(1, 0));
        refused("promise, the second of one", INDEX, one, y -> y.promise(1, 1));
        refused("ofSpring, the second of one", INDEX, one, y -> y.ofSpring(1, 0));
    }

    private static Steamfield allDraw() {
        Steamfield x = new Steamfield();
        for (int k = 0; k < 10; k++) {
            x.well(11, false);
        }
        for (int k = 0; k < 4; k++) {
            x.spring(11, k, k);
        }
        return x;
    }

    // .. and "at most 10", "at most 4": with all that there may be.
    private static void allOfThem() {
        Check.Made all = EdgesTest::allDraw;
        Steamfield x = allDraw();
        due("open, the last well", 0, x.open(9, 1000));
        due("the last well is opened", 1000, x.ofWell(9, 1));
        due("clean, the last well", 0, x.clean(9));
        due("ofWell, the last well", 11, x.ofWell(9, 0));
        due("promise, the last spring", 3, x.promise(3, 50000));
        due("the last spring's promise", 50000, x.ofSpring(3, 2));
        refused("open, beyond the last", INDEX, all, y -> y.open(10, 1));
        refused("clean, beyond the last", INDEX, all, y -> y.clean(10));
        refused("ofWell, beyond the last", INDEX, all, y -> y.ofWell(10, 0));
        refused("promise, beyond the last", INDEX, all, y -> y.promise(4, 1));
        refused("ofSpring, beyond the last", INDEX, all, y -> y.ofSpring(4, 0));
        refused("well, one more", STATE, all, y -> y.well(0, true));
        refused("spring, one more", STATE, all, y -> y.spring(0, 0, 0));
    }

    // "All divisions .. are rounded down." "Its DEGREES are its HEAT divided by (its WATER and 20000, together)."
    private static void degreesAreRoundedDown() {
        Steamfield x = Setups.still(0, 299);
        for (int k = 0; k < 16; k++) {
            x.pass(24);
        }
        x.pass(15);
        due("heat of 399 months", 300 * 20000 - 50, x.ofBlock(0, 2));
        due("50 less of heat than 300 degrees", 299, x.ofBlock(0, 1));
        x.pass(1);
        due("heat of 400 months", 300 * 20000, x.ofBlock(0, 2));
        due("just 300 degrees", 300, x.ofBlock(0, 1));
        x.pass(1);
        due("at 300 degrees it gets no heat", 300 * 20000, x.ofBlock(0, 2));
    }

    // "TRACER less, by its TRACER times W divided by its WATER (0 without WATER)"
    private static void noTracerGoesWithoutWater() {
        Steamfield x = Setups.still(9000, 300);
        x.tracer(5, 100);
        x.block(5, 0, 300);
        Setups.drill(x, 5, false, 1000);
        x.spring(5, 0, 0);
        x.pass(1);
        due("its tracer stays", 100, x.ofBlock(5, 3));
        due("none is found", 0, x.ofWell(0, 5));
        due("in no month", Steamfield.NONE, x.ofWell(0, 6));
        due("its well draws none", 0, x.ofWell(0, 3));
        due("and is not shut", 0, x.ofWell(0, 4));
        due("its spring gives none", 0, x.ofSpring(0, 1));
        due("and is dry", 1, x.ofSpring(0, 3));
    }

    // "HEAT less, by W times its DEGREES; .. as they are ahead of that": what the division leaves stays in the rock,
    // and two wells in one block may meet two degrees.
    private static void eachWellMeetsItsDegrees() {
        int[][] want = {{579, 299, 299}, {580, 299, 300}};
        for (int[] row : want) {
            Steamfield x = Setups.still(10000, 299);
            x.well(5, false);
            x.well(5, false);
            for (int k = 0; k < 24; k++) {
                x.pass(24);
            }
            x.pass(row[0] - 576);
            due("heat that is left over", 299 * 30000 + 50 * row[0], x.ofBlock(5, 2));
            x.open(0, 1000);
            x.open(1, 1000);
            x.pass(1);
            // The first draws 1000, the second a tenth of the 9000 that are left: 8100 and the rock keep the rest.
            int goes = 1000 * row[1] + 900 * row[2];
            due("degrees of both after " + row[0], goes, x.sum(7));
            long heat = 299 * 30000 + 50 * row[0] - goes;
            due("heat behind both", heat + 50 * Math.max(300 - heat / 28100, 0), x.ofBlock(5, 2));
        }
    }

    // "WELLS are SHUT .. one that returns, if the LIGHT of its BLOCK is RED"; "RED, if it is 2000 or more"
    private static void redShuts() {
        int[][] want = {{2221, 1999, 0}, {2222, 2000, 1}};
        for (int[] row : want) {
            Steamfield x = Setups.cold(1000, 1000, row[0] - 2000);
            Setups.drill(x, 11, true, 1);
            x.pass(1);
            due("strain", row[1], x.ofBlock(11, 4));
            due("not shut in the month that strains it", 0, x.ofWell(3, 4));
            x.pass(1);
            due("shut at " + row[1], row[2], x.ofWell(3, 4));
            due("returned at " + row[1], row[2] == 1 ? 0 : row[0] / 2, x.ofWell(3, 3));
            due("to the river at " + row[1], row[2] == 1 ? row[0] : row[0] - row[0] / 2, x.sum(2));
        }
    }

    // "of that half, if the LIGHT of its BLOCK is AMBER"; "GREEN, if its STRAIN is below 1000"
    private static void amberHalves() {
        int[][] want = {{1110, 999, 1110}, {1111, 1000, 555}};
        for (int[] row : want) {
            Steamfield x = Setups.cold(1000, row[0] - 1000);
            Setups.drill(x, 11, true, 1);
            x.pass(1);
            due("strain", row[1], x.ofBlock(11, 4));
            due("not halved in the month that strains it", row[0], x.ofWell(2, 3));
            x.pass(1);
            due("part at " + row[1], row[2], x.ofWell(2, 3));
            due("to the river at " + row[1], row[0] - row[2], x.sum(2));
            due("water at " + row[1], 50000 + row[0] + row[2], x.ofBlock(11, 0));
        }
    }

    // "one that draws, if it is in a BLOCK NEAR a SPRING whose BLOCK has less WATER than the PROMISE"
    private static void promiseShuts() {
        int[][] want = {
            {0, 0, 0}, {0, 1, 1}, {1, 1, 0}, {1, 2, 1}, {49999, 50000, 1}, {50000, 50000, 0}, {50000, 0, 0}
        };
        for (int[] row : want) {
            Steamfield x = Setups.still(20000, 300);
            x.block(5, row[0], 300);
            x.spring(5, 50000, row[1]);
            Setups.drill(x, 6, false, 10);
            x.pass(1);
            String what = row[0] + " of water, " + row[1] + " promised: ";
            due(what + "shut", row[2], x.ofWell(0, 4));
            due(what + "drawn", row[2] == 1 ? 0 : 10, x.ofWell(0, 3));
        }
        Steamfield own = Setups.still(20000, 300);
        own.block(6, 10000, 300);
        own.spring(5, 50000, 20000);
        Setups.drill(own, 6, false, 10);
        own.pass(1);
        due("the water of the well's own block does not matter", 0, own.ofWell(0, 4));
    }

    // The same of several SPRINGS: one that is near and short of water is enough.
    private static void oneOfFourSpringsShuts() {
        for (int shortOne = 0; shortOne < 4; shortOne++) {
            Steamfield x = Setups.still(10000, 300);
            for (int k = 0; k < 4; k++) {
                x.spring(k == 3 ? 11 : k, 50000, k == shortOne ? 10001 : 10000);
            }
            Setups.drill(x, 1, false, 10);
            x.pass(1);
            due("the spring " + shortOne + " is short", shortOne == 3 ? 0 : 1, x.ofWell(0, 4));
        }
        Steamfield none = Setups.still(0, 300);
        Setups.drill(none, 1, false, 10);
        none.pass(1);
        due("no springs shut none", 0, none.ofWell(0, 4));
    }

    // "but at most a tenth of the WATER of its BLOCK"
    private static void atMostATenth() {
        int[][] want = {
            {0, 1, 0}, {9, 1, 0}, {10, 1, 1}, {19, 2, 1}, {20, 2, 2}, {9999, 1000, 999}, {10000, 1000, 1000},
            {10010, 1000, 1000}, {9990, 999, 999}, {50000, 1000, 1000}
        };
        for (int[] row : want) {
            Steamfield x = Setups.still(row[0], 90);
            Setups.drill(x, 5, false, row[1]);
            x.pass(1);
            due("drawn of " + row[0], row[2], x.ofWell(0, 3));
            due("left of " + row[0], row[0] - row[2], x.ofBlock(5, 0));
        }
    }

    // "W less that is BRINE, of T degrees, but at most 100": two uses of 50 each take all that it has.
    private static void brineHasAtMost100() {
        int[][] want = {{0, 0}, {1, 1}, {99, 99}, {100, 100}, {101, 100}, {350, 100}};
        for (int[] row : want) {
            Steamfield x = Setups.still(10000, row[0]);
            Setups.drill(x, 5, false, 1);
            x.use(0, 50);
            x.use(0, 50);
            x.use(0, 50);
            x.pass(1);
            due("of " + row[0] + " degrees", row[1], x.sum(5));
        }
    }

    // "with T above 160 and W above 0 its SCALE is then more by 1 and W divided by 500, at most 100"
    private static void scaleHasAtMost100() {
        Steamfield x = Setups.still(50000, 350);
        Setups.drill(x, 5, false, 1000);
        int months = 0;
        while (x.ofWell(0, 2) < 99 && months < 200) {
            x.pass(1);
            months++;
        }
        due("a scale of 99", 99, x.ofWell(0, 2));
        x.pass(1);
        due("a hundredth is drawn", 10, x.ofWell(0, 3));
        due("a scale of 100", 100, x.ofWell(0, 2));
        x.pass(1);
        due("none is drawn", 0, x.ofWell(0, 3));
        due("and it is not shut for that", 0, x.ofWell(0, 4));
        due("still a scale of 100", 100, x.ofWell(0, 2));
        due("clean tells it", 100, x.clean(0));
        due("clean", 0, x.ofWell(0, 2));
        x.pass(1);
        Check.holds("it draws again", x.ofWell(0, 3) > 10);
    }

    // "a WELL .. that draws has an OPENING, 0 to 1000": at 0 it draws none; "W above 0"
    private static void openingOf0() {
        Steamfield x = Setups.still(50000, 350);
        x.well(5, false);
        x.spring(5, 50000, 0);
        x.tracer(5, 100000);
        x.pass(2);
        due("drawn", 0, x.ofWell(0, 3));
        due("not shut", 0, x.ofWell(0, 4));
        due("no scale", 0, x.ofWell(0, 2));
        due("nothing found", Steamfield.NONE, x.ofWell(0, 6));
        due("no account", Steamfield.NONE, x.ofSpring(0, 4));
        due("share", 0, x.share());
    }

    // "Each USE, .. if there is BRINE, and D is what it needs or more"; "it takes what it takes, but at most D"
    private static void usesNeedAndTake() {
        int[][] want = {{49, 50}, {50, 50}, {51, 0}};
        for (int[] row : want) {
            Steamfield x = Setups.cold(1);
            x.use(row[0], 50);
            x.pass(1);
            due("brine of 50 degrees, needed " + row[0], row[1], x.sum(5));
        }
        int[][] takes = {{48, 49, 49}, {50, 50, 50}, {49, 50, 49}};
        for (int[] row : takes) {
            Steamfield x = Setups.still(50000, row[0]);
            Setups.drill(x, 0, false, 1);
            x.use(0, row[1]);
            x.pass(1);
            due(row[1] + " of " + row[0] + " degrees", Math.min(row[0], row[2]), x.sum(5));
        }
        Steamfield none = Setups.cold(1000);
        none.pass(1);
        due("no use, none sold", 0, none.sum(5));
        Steamfield full = Setups.cold(1);
        for (int k = 0; k < 6; k++) {
            full.use(45 + k, 1);
        }
        full.pass(1);
        // 45, 46, 47 of 50, 49, 48 degrees; 48 is more than the 47 that are left.
        due("six uses, each needs more and finds less", 3, full.sum(5));
        full.pass(1);
        due("no seventh", 6, full.sum(5));
    }

    // "the sum of each part times its degrees divided by all (0 without BRINE)"
    private static void withoutBrine() {
        Steamfield x = Setups.still(10000, 300);
        Setups.drill(x, 11, true, 10);
        x.use(0, 50);
        x.pass(1);
        due("none is returned", 0, x.ofWell(0, 3));
        due("not shut", 0, x.ofWell(0, 4));
        due("none is sold", 0, x.sum(5));
        due("none to the river", 0, x.sum(2));
        due("no strain", 0, x.ofBlock(11, 4));
        due("no heat", 300 * 30000, x.ofBlock(11, 2));
        Steamfield mixed = Setups.still(50000, 0);
        mixed.block(1, 50000, 1);
        Setups.drill(mixed, 0, false, 1);
        Setups.drill(mixed, 1, false, 1);
        mixed.use(0, 1);
        mixed.use(1, 1);
        mixed.pass(1);
        due("half a degree is none", 0, mixed.sum(5));
    }

    // "all BRINE times its WEIGHT divided by the WEIGHTS of all such WELLS, together (0 if these are 0)"
    private static void weights() {
        int[][] want = {{0, 0, 0, 0}, {0, 1, 0, 1000}, {10, 10, 500, 500}, {1, 10, 90, 909}, {10, 0, 1000, 0}};
        for (int[] row : want) {
            Steamfield x = Setups.cold(1000);
            Setups.drill(x, 8, true, row[0]);
            Setups.drill(x, 9, true, row[1]);
            x.pass(1);
            String what = "weights " + row[0] + ", " + row[1] + ": ";
            due(what + "first", row[2], x.ofWell(1, 3));
            due(what + "second", row[3], x.ofWell(2, 3));
            due(what + "river", 1000 - row[2] - row[3], x.sum(2));
        }
        Steamfield none = Setups.cold(1000);
        none.pass(1);
        due("no well that returns: all to the river", 1000, none.sum(2));
    }

    // "its STRAIN is a tenth of it less"
    private static void aTenthOfStrain() {
        int[][] want = {{0, 0}, {1, 1}, {9, 9}, {10, 9}, {19, 18}, {20, 18}};
        for (int[] row : want) {
            Steamfield x = Setups.cold(row[0]);
            Setups.drill(x, 11, true, 1);
            x.pass(1);
            due("strain of " + row[0], row[1], x.ofBlock(11, 4));
        }
    }

    // "from the one of two NEIGHBOURS that has more WATER .. goes W: what it has more, times the WIDTH, divided by 1000"
    private static void cracksRoundDown() {
        int[][] want = {
            {0, 100, 0}, {9, 100, 0}, {10, 100, 1}, {999, 1, 0}, {1000, 1, 1}, {40000, 0, 0}, {40000, 1, 40},
            {40000, 100, 4000}
        };
        for (int[] row : want) {
            for (int from = 0; from <= 1; from++) {
                Steamfield x = Setups.still(10000, 300);
                x.block(from, 10000 + row[0], 310);
                x.crack(0, 1, row[1]);
                x.pass(1);
                String what = row[0] + " more in " + from + ", width " + row[1] + ": ";
                due(what + "from", 10000 + row[0] - row[2], x.ofBlock(from, 0));
                due(what + "to", 10000 + row[2], x.ofBlock(1 - from, 0));
                due(what + "heat from", 310 * (30000 + row[0] - row[2]), x.ofBlock(from, 2));
                due(what + "heat to", 300 * 30000 + 310 * row[2], x.ofBlock(1 - from, 2));
            }
        }
    }

    // "NEIGHBOURS are those that lie next to each other in a ROW, or one above the other": the rows do not go on.
    private static void whatFlowsWhere() {
        for (int from = 0; from < 12; from++) {
            Steamfield x = new Steamfield();
            x.block(from, 20000, 300);
            x.pass(1);
            int neighbours = 0;
            for (int to = 0; to < 12; to++) {
                boolean besides = Math.abs(from / 4 - to / 4) + Math.abs(from % 4 - to % 4) == 1;
                neighbours += besides ? 1 : 0;
                if (to != from) {
                    due("from " + from + " to " + to, besides ? 10200 : 10000, x.ofBlock(to, 0));
                }
            }
            due("left in " + from, 20000 - 200 * neighbours, x.ofBlock(from, 0));
        }
    }

    // "and with TRACER of it times W divided by its WATER"
    private static void tracerThroughCracks() {
        int[][] want = {{9, 0}, {10, 1}, {19, 1}, {20, 2}, {100000, 10000}};
        for (int[] row : want) {
            Steamfield x = Setups.still(10000, 300);
            x.block(1, 0, 300);
            x.crack(0, 1, 100);
            x.tracer(0, row[0]);
            x.pass(1);
            due("into a block without water", 1000, x.ofBlock(1, 0));
            due("tracer of " + row[0], row[1], x.ofBlock(1, 3));
            due("tracer left of " + row[0], row[0] - row[1], x.ofBlock(0, 3));
        }
    }

    // tracer(): "IllegalStateException if it has no WATER", as it is now.
    private static void tracerOnceThereIsWater() {
        Check.Made made = () -> {
            Steamfield x = Setups.still(0, 300);
            x.rain(1);
            x.pass(1);
            return x;
        };
        Steamfield rained = made.fresh();
        due("one of water takes tracer", 1, rained.tracer(8, 1));
        due("and more", 100001, rained.tracer(8, 100000));
        refused("no rain fell there", STATE, made, x -> x.tracer(7, 1));
    }

    // "one of the ROW 2 takes the rain, of 80 degrees"; "0 to 500: for each BLOCK of the ROW 2, each month"
    private static void rainInRow2() {
        for (int much : new int[] {0, 1, 500}) {
            Steamfield x = Setups.still(0, 350);
            x.rain(much);
            x.pass(1);
            for (int block = 0; block < 12; block++) {
                int wet = block < 8 ? 0 : much;
                due("rain of " + much + " in " + block, wet, x.ofBlock(block, 0));
                due("its heat", 350 * 20000 + 80 * wet, x.ofBlock(block, 2));
            }
            due("rain that was taken", 4 * much, x.sum(4));
        }
    }

    // "if its BLOCK has WATER of its LEVEL or more, it GIVES a hundredth of it, but at most 50"
    private static void springsGive() {
        int[][] want = {
            {50000, 50000, 50}, {49999, 50000, 0}, {0, 0, 0}, {99, 99, 0}, {99, 0, 0}, {100, 100, 1}, {199, 0, 1},
            {200, 201, 0}, {200, 200, 2}, {4999, 1, 49}, {5000, 1, 50}, {5099, 1, 50}, {5100, 1, 50}
        };
        for (int[] row : want) {
            Steamfield x = Setups.still(row[0], 300);
            x.spring(5, row[1], 0);
            x.pass(1);
            String what = row[0] + " of water, level " + row[1] + ": ";
            due(what + "gave", row[2], x.ofSpring(0, 1));
            due(what + "dry", row[2] > 0 ? 0 : 1, x.ofSpring(0, 3));
            due(what + "left", row[0] - row[2], x.ofBlock(5, 0));
            due(what + "sum", row[2], x.sum(3));
        }
    }

    // "If it GIVES more than 0, all its ACCOUNTS are 0 then .. otherwise it is dry for 1 month more."
    private static void givingClearsAccounts() {
        int[][] want = {{99, 0}, {100, Steamfield.NONE}};
        for (int[] row : want) {
            Steamfield x = Setups.still(10000, 90);
            x.block(5, row[0], 90);
            x.spring(5, 0, 0);
            Setups.drill(x, 6, false, 1);
            x.pass(1);
            due("to blame for " + row[0] + " of water", row[1], x.ofSpring(0, 4));
            due("dry with " + row[0], row[0] == 99 ? 1 : 0, x.ofSpring(0, 3));
            x.pass(1);
            due("still to blame, or now", 0, x.ofSpring(0, 4));
            due("dry behind " + row[0], row[0] == 99 ? 2 : 1, x.ofSpring(0, 3));
        }
    }

    // "To BLAME .. is the WELL with the greatest ACCOUNT above 0, of several the lowest": with all ten wells.
    private static void blameOfTen() {
        for (int greatest = 0; greatest < 10; greatest++) {
            Steamfield x = Setups.still(10000, 300);
            x.spring(5, 50000, 0);
            for (int k = 0; k < 10; k++) {
                Setups.drill(x, 5, false, k < greatest ? 1 : 2);
            }
            x.pass(1);
            due("2 from the well " + greatest, greatest, x.ofSpring(0, 4));
        }
        Steamfield alike = Setups.still(10000, 300);
        alike.spring(5, 50000, 0);
        for (int k = 0; k < 10; k++) {
            Setups.drill(alike, 5, k == 0, k == 0 ? 0 : 1);
        }
        alike.pass(1);
        due("one that returns has no account", 1, alike.ofSpring(0, 4));
    }

    // "each .. has .. for each WELL an ACCOUNT": with all four springs, and wells that are near some of them.
    private static void eachSpringHasItsAccounts() {
        Steamfield x = Setups.still(10000, 300);
        for (int block : new int[] {0, 3, 8, 11}) {
            x.spring(block, 50000, 0);
        }
        Setups.drill(x, 5, false, 9);
        Setups.drill(x, 1, false, 1);
        Setups.drill(x, 10, false, 1);
        Setups.drill(x, 9, false, 1);
        Setups.drill(x, 4, false, 2);
        x.pass(1);
        // The well 0 is near none; 1 and 4 are near the block 0, 3 and 4 near 8, 2 near 11.
        int[] blamed = {4, Steamfield.NONE, 4, 2};
        for (int spring = 0; spring < 4; spring++) {
            due("to blame for the spring " + spring, blamed[spring], x.ofSpring(spring, 4));
        }
    }

    // block(): "IllegalStateException if a month has passed"
    private static void blockAheadOfTheFirstMonth() {
        Check.Made oneMonth = () -> {
            Steamfield x = new Steamfield();
            x.pass(1);
            return x;
        };
        refused("block in the month 1", STATE, oneMonth, x -> x.block(0, 0, 0));
        Steamfield x = new Steamfield();
        Check.same("a refused pass", "throws " + ARGUMENT, Check.outcome(x, y -> y.pass(0)));
        due("passes no month", 10000, x.block(0, 1, 1));
    }

    // pass(): "1 to 24"; "IllegalStateException if it would be above 600"
    private static void passTo600() {
        Check.Made at577 = () -> {
            Steamfield x = new Steamfield();
            for (int k = 0; k < 24; k++) {
                x.pass(24);
            }
            x.pass(1);
            return x;
        };
        refused("from 577 to 601", STATE, at577, x -> x.pass(24));
        due("from 577 to 600", 600, at577.fresh().pass(23));
        Steamfield x = at577.fresh();
        due("would() goes on", 10000, x.would(24, 0, 0));
        x.pass(23);
        due("would() goes on at 600", 10000, x.would(24, 0, 0));
        Check.same("from 600", "throws " + STATE, Check.outcome(x, y -> y.pass(1)));
        due("600", 600, x.count(0));
    }

    // would(): "Nothing changes."
    private static void wouldKeepsAll() {
        Check.Made made = () -> {
            Steamfield x = Setups.twoQuakes();
            x.use(1, 1);
            x.spring(0, 40000, 0);
            x.spring(3, 50000, 49000);
            x.tracer(0, 100000);
            x.rain(500);
            return x;
        };
        Steamfield x = made.fresh();
        x.would(24, 0, 0);
        Check.same("all that is told", Answers.all(made.fresh()), Answers.all(x));
        Steamfield y = made.fresh();
        y.would(24, 11, 5);
        y.would(0, 0, 0);
        Check.same("all that later calls answer", Answers.later(made.fresh()), Answers.later(y));
    }

    // ofWell(), ofSpring(): "of months 0, if none has passed since it was drilled", "since it was added"
    private static void drilledAndAddedLater() {
        Steamfield x = Setups.still(10000, 300);
        Setups.drill(x, 5, false, 100);
        x.spring(11, 0, 0);
        x.tracer(5, 10000);
        x.pass(24);
        x.well(5, false);
        x.well(6, true);
        x.spring(5, 50000, 0);
        long[][] wells = {{5, 0, 0, 0, 0, 0, Steamfield.NONE}, {6, 0, 0, 0, 0, 0, Steamfield.NONE}};
        for (int what = 0; what <= 6; what++) {
            due("drilled now, draws: " + what, wells[0][what], x.ofWell(1, what));
            due("drilled now, returns: " + what, wells[1][what], x.ofWell(2, what));
        }
        long[] spring = {5, 0, 0, 0, Steamfield.NONE};
        for (int what = 0; what <= 4; what++) {
            due("added now: " + what, spring[what], x.ofSpring(1, what));
        }
        x.open(1, 10);
        x.pass(1);
        due("drew in its first month", 10, x.ofWell(1, 3));
        due("found in its first month", 25, x.ofWell(1, 6));
        due("dry in its first month", 1, x.ofSpring(1, 3));
        Steamfield shut = Setups.still(10000, 300);
        Setups.drill(shut, 5, false, 100);
        shut.pass(1);
        shut.spring(5, 50000, 50000);
        due("not shut until a month passes", 0, shut.ofWell(0, 4));
        due("what it drew is of the latest month", 100, shut.ofWell(0, 3));
        shut.pass(1);
        due("shut then", 1, shut.ofWell(0, 4));
        due("and drew none", 0, shut.ofWell(0, 3));
    }

    /** A quake in the block 9, then one in 4 and one in 9 in each of 30 months: AMBER halves what goes into them. */
    private static Steamfield sixtyOneQuakes() {
        Steamfield x = Setups.cold(1000, 1000, 1000, 1000, 0, 0, 0, 0);
        Setups.drill(x, 9, true, 1);
        Setups.drill(x, 4, true, 0);
        x.pass(1);
        for (int well = 4; well < 8; well++) {
            x.open(well, 1000);
        }
        x.open(9, 1);
        x.pass(24);
        x.pass(6);
        return x;
    }

    // quake(): "the first 60 are kept"; count(): "all QUAKES, also those that are not kept"
    private static void sixtyQuakes() {
        Check.Made made = EdgesTest::sixtyOneQuakes;
        Steamfield x = sixtyOneQuakes();
        due("all quakes", 61, x.count(4));
        int[][] want = {{0, 1, 9}, {1, 2, 4}, {2, 2, 9}, {58, 30, 9}, {59, 31, 4}};
        for (int[] row : want) {
            Check.same("month of quake " + row[0], "" + row[1], Check.outcome(x, y -> y.quake(row[0], 0)));
            Check.same("block of quake " + row[0], "" + row[2], Check.outcome(x, y -> y.quake(row[0], 1)));
        }
        refused("the first that is not kept", INDEX, made, y -> y.quake(60, 0));
        refused("the first that never was", INDEX, made, y -> y.quake(61, 0));
        refused("a kept one, but no such thing of it", ARGUMENT, made, y -> y.quake(59, 3));
    }

    // share(): "0 if that sum is 0"
    private static void shareOfLittle() {
        int[][] want = {{0, 0}, {1, 1000}};
        for (int[] row : want) {
            Steamfield x = Setups.still(10000, row[0]);
            Setups.drill(x, 5, false, 1000);
            x.pass(1);
            due("the sum 7 at " + row[0] + " degrees", row[1], x.sum(7));
            due("share at " + row[0] + " degrees", 0, x.share());
        }
        Steamfield hot = Setups.still(10000, 101);
        Setups.drill(hot, 5, false, 400);
        hot.pass(1);
        due("the least steam", 1, hot.sum(1));
        due("its share", Float.floatToIntBits((float) 4 / (float) 40400), hot.share());
    }

    public static void main(String[] args) {
        firstNamedIsThrown();
        noneOfThem();
        oneOfThem();
        allOfThem();
        degreesAreRoundedDown();
        noTracerGoesWithoutWater();
        eachWellMeetsItsDegrees();
        redShuts();
        amberHalves();
        promiseShuts();
        oneOfFourSpringsShuts();
        atMostATenth();
        brineHasAtMost100();
        scaleHasAtMost100();
        openingOf0();
        usesNeedAndTake();
        withoutBrine();
        weights();
        aTenthOfStrain();
        cracksRoundDown();
        whatFlowsWhere();
        tracerThroughCracks();
        tracerOnceThereIsWater();
        rainInRow2();
        springsGive();
        givingClearsAccounts();
        blameOfTen();
        eachSpringHasItsAccounts();
        blockAheadOfTheFirstMonth();
        passTo600();
        wouldKeepsAll();
        drilledAndAddedLater();
        sixtyQuakes();
        shareOfLittle();
        Check.end("EdgesTest");
    }
}
