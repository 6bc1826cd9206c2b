import java.util.HashMap;
import java.util.Map;
import java.util.Random;

/** Random runs, with fixed seeds, against a second program of the document, written apart from the first. */
public final class ModelTest {
    private static final int RUNS = 400;
    private static final int CALLS = 150;

    /** One row a house or pipe, in the order in which house() and pipe() tell it. */
    private static final class Model {
        int[] rain = new int[28];
        int[] leaves = new int[28];
        int[][] house = new int[0][];
        int[][] pipe = new int[0][];
        Map<String, Integer> got = new HashMap<>();
        int day;
        int came;
        int lost;
        int drunk;
        int carted;

        Model twin() {
            Model m = new Model();
            m.rain = rain.clone();
            m.leaves = leaves.clone();
            m.house = rows(house, null);
            m.pipe = rows(pipe, null);
            m.got = new HashMap<>(got);
            m.day = day;
            m.came = came;
            m.lost = lost;
            m.drunk = drunk;
            m.carted = carted;
            return m;
        }

        static int[][] rows(int[][] old, int[] more) {
            int[][] rows = new int[old.length + (more == null ? 0 : 1)][];
            for (int i = 0; i < old.length; i++) {
                rows[i] = old[i].clone();
            }
            if (more != null) {
                rows[old.length] = more;
            }
            return rows;
        }

        void mustBeHouse(int h) {
            if (h < 0 || h >= house.length) {
                throw new IndexOutOfBoundsException();
            }
        }

        void mustBePipe(int p) {
            if (p < 0 || p >= pipe.length) {
                throw new IndexOutOfBoundsException();
            }
        }

        static void mustBe(boolean good, int least, int x, int most) {
            if (!good || x < least || x > most) {
                throw new IllegalArgumentException();
            }
        }

        static void mustTell(int what, int most) {
            if (what < 0 || what > most) {
                throw new IndexOutOfBoundsException();
            }
        }

        long setWeather(int d, int r, int l) {
            mustTell(d, 27);
            mustBe(r >= 0 && r <= 20, 0, l, 3);
            long before = rain[d] * 10 + leaves[d];
            rain[d] = r;
            leaves[d] = l;
            return before;
        }

        long build(int roof, int holds, int people, int garden) {
            mustBe(roof >= 1 && roof <= 30, 10, holds, 900);
            mustBe(people >= 0 && people <= 9, 0, garden, 20);
            if (house.length == 10) {
                throw new IllegalStateException();
            }
            house = rows(house, new int[] {roof, holds, 0, people, garden, 0, -1, 0, 0, 0});
            return house.length - 1;
        }

        long chain(int h, int other) {
            mustBeHouse(h);
            if (other != -1) {
                mustBeHouse(other);
            }
            if (h == other) {
                throw new IllegalArgumentException();
            }
            long length = 0;
            for (int at = other; at != -1; at = house[at][6]) {
                if (at == h) {
                    throw new IllegalStateException();
                }
                length++;
            }
            house[h][6] = other;
            return length;
        }

        long lay(int a, int b, int lets) {
            mustBeHouse(a);
            mustBeHouse(b);
            mustBe(a != b, 1, lets, 50);
            if (pipe.length == 12) {
                throw new IllegalStateException();
            }
            pipe = rows(pipe, new int[] {a, b, lets, 1, 0});
            return pipe.length - 1;
        }

        long turn(int p, boolean open) {
            mustBePipe(p);
            long before = pipe[p][3];
            pipe[p][3] = open ? 1 : 0;
            return before;
        }

        long clean(int h) {
            mustBeHouse(h);
            long before = house[h][5];
            house[h][5] = 0;
            return before;
        }

        long cart(int h, int water) {
            mustBeHouse(h);
            mustBe(true, 1, water, 500);
            carted += water;
            int before = lost;
            pour(h, water);
            return lost - before;
        }

        long setPeople(int h, int people) {
            mustBeHouse(h);
            mustBe(true, 0, people, 9);
            long before = house[h][3];
            house[h][3] = people;
            return before;
        }

        long house(int h, int what) {
            mustBeHouse(h);
            mustTell(what, 9);
            return house[h][what];
        }

        long pipe(int p, int what) {
            mustBePipe(p);
            mustTell(what, 4);
            return pipe[p][what];
        }

        long owes(int a, int b) {
            mustBeHouse(a);
            mustBeHouse(b);
            return got.getOrDefault(a + "<" + b, 0) - got.getOrDefault(b + "<" + a, 0);
        }

        long pass(int days) {
            mustBe(true, 1, days, 100);
            return go(days);
        }

        long count(int what) {
            mustTell(what, 10);
            long[] all = {day, house.length, pipe.length, sum(house, 2), sum(house, 7), came, lost, drunk,
                sum(house, 8), carted, sum(pipe, 3)};
            return all[what];
        }

        long foresee(int days, int what) {
            mustBe(true, 1, days, 100);
            mustTell(what, 2);
            Model m = twin();
            m.go(days);
            if (what == 1) {
                return m.count(3);
            }
            return what == 0 ? m.count(4) - count(4) : m.lost - lost;
        }

        long lasts(int h) {
            mustBeHouse(h);
            for (int days = 1; days <= 200; days++) {
                Model m = twin();
                m.go(days);
                if (m.house[h][7] > house[h][7]) {
                    return days;
                }
                if (days == 1) {
                    m.go(199);
                    if (m.house[h][7] == house[h][7]) {
                        return -1;
                    }
                }
            }
            return -1;
        }

        long needs(int h, int days) {
            mustBeHouse(h);
            mustBe(true, 1, days, 60);
            for (int tens = 1; tens <= 90; tens++) {
                Model m = twin();
                m.house[h][1] = tens * 10;
                if (m.house[h][2] > tens * 10) {
                    m.house[h][2] = tens * 10;
                }
                m.go(days);
                if (m.house[h][7] == house[h][7]) {
                    return tens * 10;
                }
            }
            return -1;
        }

        long dirty(int days) {
            mustBe(true, 1, days, 60);
            long[] thirst = new long[house.length];
            for (int h = 0; h < house.length; h++) {
                Model m = twin();
                m.clean(h);
                thirst[h] = m.go(days);
            }
            return least(thirst, twin().go(days));
        }

        long advise(int days) {
            mustBe(true, 1, days, 60);
            long[] thirst = new long[pipe.length];
            for (int p = 0; p < pipe.length; p++) {
                Model m = twin();
                m.turn(p, m.pipe[p][3] == 0);
                thirst[p] = m.go(days);
            }
            return least(thirst, twin().go(days));
        }

        static long least(long[] thirst, long without) {
            long least = without;
            for (long t : thirst) {
                least = Math.min(least, t);
            }
            for (int i = 0; i < thirst.length && least < without; i++) {
                if (thirst[i] == least) {
                    return i;
                }
            }
            return -1;
        }

        long drought() {
            for (int length = 28; length > 0; length--) {
                for (int from = 0; from < 28; from++) {
                    int dry = 0;
                    while (dry < length && rain[(from + dry) % 28] == 0) {
                        dry++;
                    }
                    if (dry == length) {
                        return length;
                    }
                }
            }
            return 0;
        }

        double full() {
            return house.length == 0 ? 0 : (double) sum(house, 2) / (double) sum(house, 1);
        }

        long digest() {
            long d = 673;
            for (int what = 0; what < 11; what++) {
                d = d * 31 + count(what);
            }
            for (int i = 0; i < 28; i++) {
                d = d * 31 + rain[i] * 10 + leaves[i];
            }
            for (int[] row : house) {
                for (int x : row) {
                    d = d * 31 + x;
                }
            }
            for (int[] row : pipe) {
                for (int x : row) {
                    d = d * 31 + x;
                }
            }
            for (int a = 0; a < house.length; a++) {
                for (int b = a + 1; b < house.length; b++) {
                    d = d * 31 + owes(a, b);
                }
            }
            return d;
        }

        static long sum(int[][] rows, int column) {
            long sum = 0;
            for (int[] row : rows) {
                sum += row[column];
            }
            return sum;
        }

        void pour(int h, int water) {
            if (h == -1) {
                lost += water;
                return;
            }
            house[h][2] += water;
            int over = Math.max(0, house[h][2] - house[h][1]);
            house[h][2] -= over;
            pour(house[h][6], over);
        }

        long go(int days) {
            long before = sum(house, 7);
            for (int i = 0; i < days; i++) {
                oneDay();
            }
            return sum(house, 7) - before;
        }

        void oneDay() {
            for (int h = 0; h < house.length; h++) {
                int comes = house[h][0] * rain[day % 28] * (10 - house[h][5]) / 10;
                came += comes;
                pour(h, comes);
            }
            for (int[] x : house) {
                int sips = 3 * x[3];
                while (sips > 0 && x[2] > 0) {
                    sips--;
                    x[2]--;
                    drunk++;
                }
                x[7] += sips;
                x[9] += sips > 0 ? 1 : 0;
            }
            for (int[] x : house) {
                for (int i = 0; i < x[4] && 2 * (x[2] - 1) >= x[1]; i++) {
                    x[2]--;
                    x[8]++;
                }
            }
            for (int[] p : pipe) {
                if (p[3] == 1) {
                    flow(p, p[0], p[1]);
                }
            }
            for (int[] x : house) {
                x[5] = Math.min(10, x[5] + leaves[day % 28]);
            }
            day++;
        }

        void flow(int[] p, int a, int b) {
            int more = house[a][2] * house[b][1] - house[b][2] * house[a][1];
            if (more < 0) {
                flow(p, b, a);
                return;
            }
            int gives = Math.min(p[2], more / (house[a][1] + house[b][1]));
            house[a][2] -= gives;
            house[b][2] += gives;
            p[4] += gives;
            got.merge(b + "<" + a, gives, Integer::sum);
        }
    }

    private final Random random;
    private final RoofWater x = new RoofWater();
    private final Model m = new Model();
    private final boolean isDry;
    private final StringBuilder run = new StringBuilder();
    private static final Map<String, Integer> seen = new HashMap<>();

    private ModelTest(int seed) {
        random = new Random(seed);
        isDry = random.nextInt(3) > 0;
    }

    public static void main(String[] args) {
        int wrong = 0;
        for (int seed = 0; seed < RUNS && wrong < 5; seed++) {
            ModelTest test = new ModelTest(seed);
            for (int i = 0; i < CALLS; i++) {
                if (!test.step(i)) {
                    wrong++;
                    System.out.println("seed " + seed + ":" + test.run);
                    break;
                }
            }
        }
        if (args.length > 0) {
            System.out.println(seen);
        }
        System.out.println(wrong == 0 ? "the two programs agree" : "the two programs differ");
        System.exit(wrong == 0 ? 0 : 1);
    }

    /** Mostly within the range, now and then just outside or far outside. */
    private int pick(int least, int most) {
        int kind = random.nextInt(60);
        if (kind == 0) {
            return least - 1;
        }
        if (kind == 1) {
            return most + 1;
        }
        if (kind == 2) {
            return random.nextBoolean() ? Integer.MIN_VALUE : Integer.MAX_VALUE;
        }
        if (kind < 6) {
            return kind == 3 ? least : most;
        }
        return least + random.nextInt(Math.max(1, most - least + 1));
    }

    private int house() {
        return pick(0, Math.max(0, m.house.length - 1));
    }

    private int pipe() {
        return pick(0, Math.max(0, m.pipe.length - 1));
    }

    private boolean step(int i) {
        int call = i < 40 && random.nextInt(3) > 0 ? random.nextInt(4) : random.nextInt(22);
        int[] a = arguments(call);
        String got = answer(call, a, true);
        String want = answer(call, a, false);
        run.append(" ").append(call).append(java.util.Arrays.toString(a)).append("=").append(got);
        seen.merge(call + " " + (want.startsWith("java") ? want : want.equals("-1") ? "-1" : "value"), 1, Integer::sum);
        if (!got.equals(want) || x.digest() != m.digest()) {
            run.append(", due is ").append(want);
            return false;
        }
        return true;
    }

    private int[] arguments(int call) {
        switch (call) {
            case 0: return new int[] {pick(0, 27), isDry ? pick(0, 20) / (1 + random.nextInt(20)) : pick(0, 20), pick(0, 3)};
            case 1: return new int[] {pick(1, 30), random.nextBoolean() ? pick(10, 120) : pick(10, 900), pick(0, 9), pick(0, 20)};
            case 2: return new int[] {house(), random.nextInt(6) == 0 ? -1 : house()};
            case 3: return new int[] {house(), house(), pick(1, 50)};
            case 4: return new int[] {pipe(), random.nextInt(2)};
            case 5: return new int[] {house()};
            case 6: return new int[] {house(), pick(1, 500)};
            case 7: return new int[] {house(), pick(0, 9) / (1 + random.nextInt(6))};
            case 8: return new int[] {house(), pick(0, 9)};
            case 9: return new int[] {pipe(), pick(0, 4)};
            case 10: return new int[] {house(), house()};
            case 11: return new int[] {random.nextInt(3) == 0 ? pick(1, 100) : pick(1, 5)};
            case 12: return new int[] {pick(0, 10)};
            case 13: return new int[] {pick(1, 100), pick(0, 2)};
            case 14: return new int[] {house()};
            case 15: return new int[] {house(), random.nextBoolean() ? pick(1, 6) : pick(1, 60)};
            case 16: return new int[] {pick(1, 60)};
            case 17: return new int[] {pick(1, 60)};
            default: return new int[0];
        }
    }

    private String answer(int call, int[] a, boolean ofProgram) {
        try {
            return ofProgram ? programAnswer(call, a) : modelAnswer(call, a);
        } catch (RuntimeException e) {
            return e.getClass().getName();
        }
    }

    private String programAnswer(int call, int[] a) {
        switch (call) {
            case 0: return "" + x.setWeather(a[0], a[1], a[2]);
            case 1: return "" + x.build(a[0], a[1], a[2], a[3]);
            case 2: return "" + x.chain(a[0], a[1]);
            case 3: return "" + x.lay(a[0], a[1], a[2]);
            case 4: return x.turn(a[0], a[1] == 1) ? "1" : "0";
            case 5: return "" + x.clean(a[0]);
            case 6: return "" + x.cart(a[0], a[1]);
            case 7: return "" + x.setPeople(a[0], a[1]);
            case 8: return "" + x.house(a[0], a[1]);
            case 9: return "" + x.pipe(a[0], a[1]);
            case 10: return "" + x.owes(a[0], a[1]);
            case 11: return "" + x.pass(a[0]);
            case 12: return "" + x.count(a[0]);
            case 13: return "" + x.foresee(a[0], a[1]);
            case 14: return "" + x.lasts(a[0]);
            case 15: return "" + x.needs(a[0], a[1]);
            case 16: return "" + x.dirty(a[0]);
            case 17: return "" + x.advise(a[0]);
            case 18: return "" + x.drought();
            case 19: return "" + x.full();
            default: return "" + x.digest();
        }
    }

    private String modelAnswer(int call, int[] a) {
        switch (call) {
            case 0: return "" + m.setWeather(a[0], a[1], a[2]);
            case 1: return "" + m.build(a[0], a[1], a[2], a[3]);
            case 2: return "" + m.chain(a[0], a[1]);
            case 3: return "" + m.lay(a[0], a[1], a[2]);
            case 4: return "" + m.turn(a[0], a[1] == 1);
            case 5: return "" + m.clean(a[0]);
            case 6: return "" + m.cart(a[0], a[1]);
            case 7: return "" + m.setPeople(a[0], a[1]);
            case 8: return "" + m.house(a[0], a[1]);
            case 9: return "" + m.pipe(a[0], a[1]);
            case 10: return "" + m.owes(a[0], a[1]);
            case 11: return "" + m.pass(a[0]);
            case 12: return "" + m.count(a[0]);
            case 13: return "" + m.foresee(a[0], a[1]);
            case 14: return "" + m.lasts(a[0]);
            case 15: return "" + m.needs(a[0], a[1]);
            case 16: return "" + m.dirty(a[0]);
            case 17: return "" + m.advise(a[0]);
            case 18: return "" + m.drought();
            case 19: return "" + m.full();
            default: return "" + m.digest();
        }
    }
}
