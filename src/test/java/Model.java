import java.util.ArrayList;
import java.util.List;

/** The document once more, written from its words alone and in another form, to be run beside the class. */
final class Model {
    static final class Rock {
        int row;
        int column;
        long water = 10000;
        long heat = 200L * 30000;
        long tracer = 0;
        long strain = 0;

        long degrees() {
            return heat / (water + 20000);
        }

        String light() {
            return strain < 1000 ? "GREEN" : strain >= 2000 ? "RED" : "AMBER";
        }

        boolean neighbour(Rock other) {
            return Math.abs(row - other.row) + Math.abs(column - other.column) == 1;
        }

        long give(long w) {
            long lost = water == 0 ? 0 : tracer * w / water;
            long degreesAhead = degrees();
            tracer -= lost;
            heat -= w * degreesAhead;
            water -= w;
            return lost;
        }

        void take(long w, long degrees) {
            water += w;
            heat += w * degrees;
        }
    }

    static final class Hole {
        int rock;
        boolean returning;
        int set = 0;
        long scale = 0;
        long moved = 0;
        boolean shut = false;
        long found = 0;
        int first = -1;
    }

    static final class Source {
        int rock;
        int level;
        int treaty;
        long gave = 0;
        int dry = 0;
        long[] accounts = new long[10];
    }

    static final class Shock {
        int month;
        int rock;
        long size;
    }

    int month = 0;
    int rain = 0;
    Rock[] rocks = new Rock[12];
    int[][] width = new int[12][12];
    List<Hole> holes = new ArrayList<>();
    List<int[]> uses = new ArrayList<>();
    List<Source> sources = new ArrayList<>();
    List<Shock> shocks = new ArrayList<>();
    long steam, river, given, rained, sold, power, drawn;

    Model() {
        for (int b = 0; b < 12; b++) {
            rocks[b] = new Rock();
            rocks[b].row = b / 4;
            rocks[b].column = b % 4;
            for (int c = 0; c < 12; c++) {
                width[b][c] = 20;
            }
        }
    }

    Model(Model o) {
        this();
        month = o.month;
        rain = o.rain;
        for (int b = 0; b < 12; b++) {
            rocks[b].water = o.rocks[b].water;
            rocks[b].heat = o.rocks[b].heat;
            rocks[b].tracer = o.rocks[b].tracer;
            rocks[b].strain = o.rocks[b].strain;
            width[b] = o.width[b].clone();
        }
        for (Hole h : o.holes) {
            Hole mine = new Hole();
            mine.rock = h.rock;
            mine.returning = h.returning;
            mine.set = h.set;
            mine.scale = h.scale;
            holes.add(mine);
        }
        uses.addAll(o.uses);
        for (Source s : o.sources) {
            Source mine = new Source();
            mine.rock = s.rock;
            mine.level = s.level;
            mine.treaty = s.treaty;
            sources.add(mine);
        }
    }

    static void index(boolean good) {
        if (!good) {
            throw new IndexOutOfBoundsException();
        }
    }

    static void argument(boolean good) {
        if (!good) {
            throw new IllegalArgumentException();
        }
    }

    static void state(boolean good) {
        if (!good) {
            throw new IllegalStateException();
        }
    }

    static boolean in(int n, int from, int to) {
        return from <= n && n <= to;
    }

    int block(int b, int water, int degrees) {
        index(in(b, 0, 11));
        argument(in(water, 0, 50000) && in(degrees, 0, 350));
        state(month == 0);
        long had = rocks[b].water;
        rocks[b].water = water;
        rocks[b].heat = (long) degrees * (water + 20000);
        return (int) had;
    }

    int crack(int a, int b, int w) {
        index(in(a, 0, 11) && in(b, 0, 11));
        argument(rocks[a].neighbour(rocks[b]) && in(w, 0, 100));
        int was = width[a][b];
        width[a][b] = w;
        width[b][a] = w;
        return was;
    }

    int rain(int much) {
        argument(in(much, 0, 500));
        int was = rain;
        rain = much;
        return was;
    }

    int well(int b, boolean isReturn) {
        index(in(b, 0, 11));
        state(holes.size() != 10);
        Hole h = new Hole();
        h.rock = b;
        h.returning = isReturn;
        holes.add(h);
        return holes.size() - 1;
    }

    int open(int w, int much) {
        index(in(w, 0, holes.size() - 1));
        Hole h = holes.get(w);
        argument(in(much, 0, h.returning ? 10 : 1000));
        int was = h.set;
        h.set = much;
        return was;
    }

    int clean(int w) {
        index(in(w, 0, holes.size() - 1));
        Hole h = holes.get(w);
        state(!h.returning);
        int was = (int) h.scale;
        h.scale = 0;
        return was;
    }

    int use(int least, int drop) {
        argument(in(least, 0, 100) && in(drop, 1, 50));
        state(uses.size() != 6);
        uses.add(new int[] {least, drop});
        return uses.size() - 1;
    }

    int spring(int b, int level, int promise) {
        index(in(b, 0, 11));
        argument(in(level, 0, 50000) && in(promise, 0, 50000));
        state(sources.size() != 4);
        Source s = new Source();
        s.rock = b;
        s.level = level;
        s.treaty = promise;
        sources.add(s);
        return sources.size() - 1;
    }

    int promise(int s, int promise) {
        index(in(s, 0, sources.size() - 1));
        argument(in(promise, 0, 50000));
        int was = sources.get(s).treaty;
        sources.get(s).treaty = promise;
        return was;
    }

    long tracer(int b, int much) {
        index(in(b, 0, 11));
        argument(in(much, 1, 100000));
        state(rocks[b].water != 0);
        return rocks[b].tracer += much;
    }

    int pass(int months) {
        argument(in(months, 1, 24));
        state(month + months <= 600);
        for (int m = 0; m < months; m++) {
            month();
        }
        return month;
    }

    long ofBlock(int b, int what) {
        index(in(b, 0, 11));
        argument(in(what, 0, 5));
        Rock r = rocks[b];
        String light = r.light();
        int lightNumber = light.equals("GREEN") ? 0 : light.equals("AMBER") ? 1 : 2;
        return new long[] {r.water, r.degrees(), r.heat, r.tracer, r.strain, lightNumber}[what];
    }

    long would(int months, int b, int what) {
        index(in(b, 0, 11));
        argument(in(months, 0, 24) && in(what, 0, 5));
        Model other = new Model(this);
        for (int m = 0; m < months; m++) {
            other.month();
        }
        return other.ofBlock(b, what);
    }

    long ofWell(int w, int what) {
        index(in(w, 0, holes.size() - 1));
        argument(in(what, 0, 6));
        Hole h = holes.get(w);
        return new long[] {h.rock, h.set, h.scale, h.moved, h.shut ? 1 : 0, h.found, h.first}[what];
    }

    long ofSpring(int n, int what) {
        index(in(n, 0, sources.size() - 1));
        argument(in(what, 0, 4));
        Source s = sources.get(n);
        int blame = -1;
        for (int w = 9; w >= 0; w--) {
            if (s.accounts[w] > 0 && (blame == -1 || s.accounts[w] >= s.accounts[blame])) {
                blame = w;
            }
        }
        return new long[] {s.rock, s.gave, s.treaty, s.dry, blame}[what];
    }

    int quake(int q, int what) {
        index(in(q, 0, Math.min(shocks.size(), 60) - 1));
        argument(in(what, 0, 2));
        Shock s = shocks.get(q);
        return new int[] {s.month, s.rock, (int) s.size}[what];
    }

    int count(int what) {
        argument(in(what, 0, 4));
        return new int[] {month, holes.size(), sources.size(), uses.size(), shocks.size()}[what];
    }

    long sum(int what) {
        argument(in(what, 0, 7));
        long water = 0;
        for (Rock r : rocks) {
            water += r.water;
        }
        return new long[] {water, steam, river, given, rained, sold, power, drawn}[what];
    }

    int share() {
        return drawn == 0 ? 0 : Float.floatToIntBits((float) power / (float) drawn);
    }

    private boolean near(Source s, int rock) {
        return s.rock == rock || rocks[s.rock].neighbour(rocks[rock]);
    }

    private void month() {
        month += 1;
        for (Hole h : holes) {
            h.shut = false;
            h.moved = 0;
            if (h.returning) {
                h.shut = rocks[h.rock].light().equals("RED");
            } else {
                for (Source s : sources) {
                    h.shut |= near(s, h.rock) && rocks[s.rock].water < s.treaty;
                }
            }
        }
        List<long[]> brines = new ArrayList<>();
        for (int w = 0; w < holes.size(); w++) {
            if (!holes.get(w).returning && !holes.get(w).shut) {
                brines.add(drawFrom(w));
            }
        }
        long brine = 0;
        long parts = 0;
        for (long[] b : brines) {
            brine += b[0];
            parts += b[0] * b[1];
        }
        long d = brine == 0 ? 0 : parts / brine;
        for (int[] u : uses) {
            if (brine != 0 && d >= u[0]) {
                long takes = u[1] > d ? d : u[1];
                sold += takes * brine;
                d -= takes;
            }
        }
        returnAll(brine, d);
        for (int b = 0; b < 12; b++) {
            shakeRock(b);
        }
        flowAll();
        for (Rock r : rocks) {
            if (r.row == 2) {
                r.take(rain, 80);
                rained += rain;
            }
            if (r.degrees() < 300) {
                r.heat += 50 * (300 - r.degrees());
            }
        }
        for (Source s : sources) {
            Rock r = rocks[s.rock];
            s.gave = 0;
            if (r.water >= s.level) {
                s.gave = r.water / 100 > 50 ? 50 : r.water / 100;
                r.give(s.gave);
            }
            given += s.gave;
            if (s.gave > 0) {
                s.accounts = new long[10];
                s.dry = 0;
            } else {
                s.dry += 1;
            }
        }
    }

    /** Returns the brine and its degrees. */
    private long[] drawFrom(int w) {
        Hole h = holes.get(w);
        Rock r = rocks[h.rock];
        long much = h.set * (100 - h.scale) / 100;
        if (much > r.water / 10) {
            much = r.water / 10;
        }
        long t = r.degrees();
        long got = r.give(much);
        h.moved = much;
        h.found += got;
        if (h.first == -1 && h.found > 0) {
            h.first = month;
        }
        long wet = 0;
        if (t > 100) {
            wet = much * (t - 100 > 200 ? 200 : t - 100) / 400;
        }
        steam += wet;
        power += wet * (t - 60 < 0 ? 0 : t - 60) / 10;
        drawn += much * t;
        if (t > 160 && much > 0) {
            h.scale += 1 + much / 500;
            if (h.scale > 100) {
                h.scale = 100;
            }
        }
        for (Source s : sources) {
            if (near(s, h.rock)) {
                s.accounts[w] += much;
            }
        }
        return new long[] {much - wet, t > 100 ? 100 : t};
    }

    private void returnAll(long brine, long d) {
        List<Hole> open = new ArrayList<>();
        long weights = 0;
        for (Hole h : holes) {
            if (h.returning && !h.shut) {
                open.add(h);
                weights += h.set;
            }
        }
        long back = 0;
        for (Hole h : open) {
            h.moved = weights == 0 ? 0 : brine * h.set / weights;
            if (rocks[h.rock].light().equals("AMBER")) {
                h.moved /= 2;
            }
            back += h.moved;
        }
        river += brine - back;
        for (Hole h : open) {
            rocks[h.rock].take(h.moved, d);
            rocks[h.rock].strain += h.moved;
        }
    }

    private void shakeRock(int b) {
        Rock r = rocks[b];
        if (r.strain > 3000) {
            Shock s = new Shock();
            s.month = month;
            s.rock = b;
            s.size = r.strain / 1000;
            shocks.add(s);
            r.strain /= 2;
        }
        r.strain -= r.strain / 10;
    }

    private void flowAll() {
        long[] water = new long[12];
        long[] heat = new long[12];
        long[] tracer = new long[12];
        for (int from = 0; from < 12; from++) {
            for (int to = 0; to < 12; to++) {
                Rock f = rocks[from];
                Rock t = rocks[to];
                if (f.neighbour(t) && f.water > t.water) {
                    long w = (f.water - t.water) * width[from][to] / 1000;
                    long carried = f.tracer * w / f.water;
                    water[from] -= w;
                    water[to] += w;
                    heat[from] -= w * f.degrees();
                    heat[to] += w * f.degrees();
                    tracer[from] -= carried;
                    tracer[to] += carried;
                }
            }
        }
        for (int b = 0; b < 12; b++) {
            rocks[b].water += water[b];
            rocks[b].heat += heat[b];
            rocks[b].tracer += tracer[b];
        }
    }
}
