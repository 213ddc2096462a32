/** Everything that an object tells, in one text; would() is asked too, as its cracks and rain show in no other answer. */
final class Answers {
    private Answers() {
    }

    static String all(Steamfield x) {
        StringBuilder text = new StringBuilder();
        for (int block = 0; block < 12; block++) {
            text.append("\nblock ").append(block);
            for (int what = 0; what <= 5; what++) {
                text.append(' ').append(x.ofBlock(block, what));
            }
            text.append(" would ").append(x.would(2, block, 2)).append(' ').append(x.would(2, block, 4));
        }
        for (int well = 0; well < x.count(1); well++) {
            text.append("\nwell ").append(well);
            for (int what = 0; what <= 6; what++) {
                text.append(' ').append(x.ofWell(well, what));
            }
        }
        for (int spring = 0; spring < x.count(2); spring++) {
            text.append("\nspring ").append(spring);
            for (int what = 0; what <= 4; what++) {
                text.append(' ').append(x.ofSpring(spring, what));
            }
        }
        for (int quake = 0; quake < Math.min(x.count(4), 60); quake++) {
            text.append("\nquake ").append(quake);
            for (int what = 0; what <= 2; what++) {
                text.append(' ').append(x.quake(quake, what));
            }
        }
        text.append("\ncounts");
        for (int what = 0; what <= 4; what++) {
            text.append(' ').append(x.count(what));
        }
        text.append("\nsums");
        for (int what = 0; what <= 7; what++) {
            text.append(' ').append(x.sum(what));
        }
        return text.append("\nshare ").append(x.share()).toString();
    }

    /** What later calls answer: all that is told some months on, then what each call that sets says there was. */
    static String later(Steamfield x) {
        StringBuilder text = new StringBuilder();
        int months = Math.min(3, 600 - x.count(0));
        if (months > 0) {
            text.append("pass ").append(x.pass(months));
        }
        text.append(all(x)).append("\nrain ").append(x.rain(1)).append("\ncracks");
        for (int block = 0; block < 12; block++) {
            if (block % 4 != 3) {
                text.append(' ').append(x.crack(block, block + 1, 1));
            }
            if (block < 8) {
                text.append(' ').append(x.crack(block, block + 4, 1));
            }
        }
        text.append("\nopen");
        for (int well = 0; well < x.count(1); well++) {
            text.append(' ').append(x.open(well, 1));
        }
        text.append("\npromise");
        for (int spring = 0; spring < x.count(2); spring++) {
            text.append(' ').append(x.promise(spring, 1));
        }
        text.append("\nnext ").append(Check.outcome(x, y -> y.well(0, false)));
        text.append(' ').append(Check.outcome(x, y -> y.use(0, 1)));
        return text.append(' ').append(Check.outcome(x, y -> y.spring(0, 0, 0))).toString();
    }
}
