/** Objects that the tests begin with; each takes some sixty calls at most, of the 512 that an object has. */
final class Setups {
    private Setups() {
    }

    static Steamfield fresh() {
        return new Steamfield();
    }

    static void closeCracks(Steamfield x) {
        for (int block = 0; block < 12; block++) {
            if (block % 4 != 3) {
                x.crack(block, block + 1, 0);
            }
            if (block < 8) {
                x.crack(block, block + 4, 0);
            }
        }
    }

    /** Nothing flows; at 300 degrees nothing warms either. */
    static Steamfield still(int water, int degrees) {
        Steamfield x = new Steamfield();
        for (int block = 0; block < 12; block++) {
            x.block(block, water, degrees);
        }
        closeCracks(x);
        return x;
    }

    static int drill(Steamfield x, int block, boolean isReturn, int much) {
        int well = x.well(block, isReturn);
        x.open(well, much);
        return well;
    }

    /** Blocks of cold water, from which wells give as much brine as their openings: so much each, none above 1000. */
    static Steamfield cold(int... openings) {
        Steamfield x = still(50000, 50);
        for (int k = 0; k < openings.length; k++) {
            drill(x, k, false, openings[k]);
        }
        return x;
    }

    static Steamfield full() {
        Steamfield x = new Steamfield();
        for (int k = 0; k < 10; k++) {
            drill(x, k, k >= 5, 3);
        }
        for (int k = 0; k < 6; k++) {
            x.use(10 * k, 1);
        }
        for (int k = 0; k < 4; k++) {
            x.spring(k, 9000, 100);
        }
        x.rain(7);
        return x;
    }

    static Steamfield fullLater() {
        Steamfield x = full();
        x.pass(3);
        return x;
    }

    static Steamfield nearTheEnd() {
        Steamfield x = full();
        for (int k = 0; k < 24; k++) {
            x.pass(24);
        }
        x.pass(23);
        return x;
    }

    static Steamfield twoQuakes() {
        Steamfield x = cold(1000, 1000, 1000, 1000, 1000, 1000, 1000, 1000);
        drill(x, 9, true, 1);
        drill(x, 4, true, 1);
        x.pass(1);
        return x;
    }

    static Steamfield busy() {
        Steamfield x = new Steamfield();
        x.block(0, 30000, 340);
        x.block(7, 500, 40);
        x.crack(0, 1, 90);
        x.rain(300);
        drill(x, 0, false, 900);
        drill(x, 1, false, 800);
        drill(x, 10, false, 1000);
        drill(x, 5, true, 10);
        drill(x, 6, true, 3);
        x.use(50, 20);
        x.use(90, 30);
        x.spring(1, 8000, 9000);
        x.spring(2, 50000, 0);
        x.tracer(0, 90000);
        return x;
    }
}
