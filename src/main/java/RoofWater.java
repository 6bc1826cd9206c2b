/** A village of houses with cisterns under their roofs: rain, chains, pipes, thirst, and looking ahead. */
public final class RoofWater {
    private static final int NONE = -1;
    private static final int LONGEST_PASS = 100;
    private static final int LONGEST_PLAN = 60;
    private static final int LONGEST_LAST = 200;
    private static final int HOLDS_STEP = 10;
    private static final int HOLDS_MOST = 900;
    private static final int COUNTS = 11;
    private static final int HOUSE_FACTS = 10;
    private static final int PIPE_FACTS = 5;
    private static final int FORESIGHTS = 3;

    private final Weather weather;
    private final Village village;
    // Made once and overwritten by each look ahead, so that no call makes objects.
    private final Village trial;

    public RoofWater() {
        weather = new Weather();
        village = new Village(weather);
        trial = new Village(weather);
    }

    // ---- weather, houses, pipes

    public int setWeather(int day, int rain, int leaves) throws IndexOutOfBoundsException, IllegalArgumentException {
        needIndex(isWithin(day, 0, Weather.DAYS - 1));
        needArgument(isWithin(rain, 0, 20) && isWithin(leaves, 0, 3));
        int before = weather.code(day);
        weather.change(day, rain, leaves);
        return before;
    }

    public int build(int roof, int holds, int people, int garden)
            throws IllegalArgumentException, IllegalStateException {
        needArgument(isWithin(roof, 1, 30) && isWithin(holds, 10, HOLDS_MOST));
        needArgument(isWithin(people, 0, 9) && isWithin(garden, 0, 20));
        needState(village.houseCount < Village.MOST_HOUSES);
        return village.addHouse(roof, holds, people, garden);
    }

    public int chain(int house, int other)
            throws IndexOutOfBoundsException, IllegalArgumentException, IllegalStateException {
        needHouse(house);
        needIndex(other == NONE || village.hasHouse(other));
        needArgument(house != other);
        needState(!village.flowsThrough(other, house));
        village.houses[house].next = other;
        return village.chainLength(other);
    }

    public int lay(int a, int b, int lets)
            throws IndexOutOfBoundsException, IllegalArgumentException, IllegalStateException {
        needHouse(a);
        needHouse(b);
        needArgument(a != b && isWithin(lets, 1, 50));
        needState(village.pipeCount < Village.MOST_PIPES);
        return village.addPipe(a, b, lets);
    }

    public boolean turn(int pipe, boolean isOpen) throws IndexOutOfBoundsException {
        needPipe(pipe);
        boolean before = village.pipes[pipe].isOpen;
        village.pipes[pipe].isOpen = isOpen;
        return before;
    }

    public int clean(int house) throws IndexOutOfBoundsException {
        needHouse(house);
        int before = village.houses[house].clogged;
        village.houses[house].clogged = 0;
        return before;
    }

    public int cart(int house, int water) throws IndexOutOfBoundsException, IllegalArgumentException {
        needHouse(house);
        needArgument(isWithin(water, 1, 500));
        village.carted += water;
        return village.pour(house, water);
    }

    public int setPeople(int house, int people) throws IndexOutOfBoundsException, IllegalArgumentException {
        needHouse(house);
        needArgument(isWithin(people, 0, 9));
        int before = village.houses[house].people;
        village.houses[house].people = people;
        return before;
    }

    public int house(int house, int what) throws IndexOutOfBoundsException {
        needHouse(house);
        needIndex(isWithin(what, 0, HOUSE_FACTS - 1));
        return village.houses[house].fact(what);
    }

    public int pipe(int pipe, int what) throws IndexOutOfBoundsException {
        needPipe(pipe);
        needIndex(isWithin(what, 0, PIPE_FACTS - 1));
        return village.pipes[pipe].fact(what);
    }

    public int owes(int a, int b) throws IndexOutOfBoundsException {
        needHouse(a);
        needHouse(b);
        return village.debt(a, b);
    }

    // ---- days

    public int pass(int days) throws IllegalArgumentException {
        needArgument(isWithin(days, 1, LONGEST_PASS));
        return village.live(days);
    }

    public int count(int what) throws IndexOutOfBoundsException {
        needIndex(isWithin(what, 0, COUNTS - 1));
        return village.total(what);
    }

    // ---- looking ahead

    public int foresee(int days, int what) throws IllegalArgumentException, IndexOutOfBoundsException {
        needArgument(isWithin(days, 1, LONGEST_PASS));
        needIndex(isWithin(what, 0, FORESIGHTS - 1));
        trial.copy(village);
        int thirst = trial.live(days);
        switch (what) {
            case 0: return thirst;
            case 1: return trial.allWater();
            default: return trial.lost - village.lost;
        }
    }

    public int lasts(int house) throws IndexOutOfBoundsException {
        needHouse(house);
        trial.copy(village);
        return trial.daysToThirst(house, LONGEST_LAST);
    }

    public int needs(int house, int days) throws IndexOutOfBoundsException, IllegalArgumentException {
        needHouse(house);
        needArgument(isWithin(days, 1, LONGEST_PLAN));
        // A larger cistern can be worse (pipes and gardens go by how full it is), so each size is tried.
        for (int holds = HOLDS_STEP; holds <= HOLDS_MOST; holds += HOLDS_STEP) {
            trial.copy(village);
            trial.houses[house].resize(holds);
            if (trial.daysToThirst(house, days) == NONE) {
                return holds;
            }
        }
        return NONE;
    }

    public int dirty(int days) throws IllegalArgumentException {
        needArgument(isWithin(days, 1, LONGEST_PLAN));
        trial.copy(village);
        int least = trial.live(days);
        int best = NONE;
        for (int i = 0; i < village.houseCount; i++) {
            trial.copy(village);
            trial.houses[i].clogged = 0;
            int thirst = trial.live(days);
            if (thirst < least) {
                least = thirst;
                best = i;
            }
        }
        return best;
    }

    public int advise(int days) throws IllegalArgumentException {
        needArgument(isWithin(days, 1, LONGEST_PLAN));
        trial.copy(village);
        int least = trial.live(days);
        int best = NONE;
        for (int i = 0; i < village.pipeCount; i++) {
            trial.copy(village);
            trial.pipes[i].isOpen = !trial.pipes[i].isOpen;
            int thirst = trial.live(days);
            if (thirst < least) {
                least = thirst;
                best = i;
            }
        }
        return best;
    }

    public int drought() {
        return weather.longestDryRow();
    }

    public double full() {
        int holds = village.allHolds();
        return holds > 0 ? (double) village.allWater() / holds : 0.0;
    }

    public long digest() {
        long d = 673;
        for (int what = 0; what < COUNTS; what++) {
            d = mix(d, village.total(what));
        }
        for (int day = 0; day < Weather.DAYS; day++) {
            d = mix(d, weather.code(day));
        }
        d = mixHouses(d);
        d = mixPipes(d);
        return mixDebts(d);
    }

    private long mixHouses(long start) {
        long d = start;
        for (int i = 0; i < village.houseCount; i++) {
            for (int what = 0; what < HOUSE_FACTS; what++) {
                d = mix(d, village.houses[i].fact(what));
            }
        }
        return d;
    }

    private long mixPipes(long start) {
        long d = start;
        for (int i = 0; i < village.pipeCount; i++) {
            for (int what = 0; what < PIPE_FACTS; what++) {
                d = mix(d, village.pipes[i].fact(what));
            }
        }
        return d;
    }

    private long mixDebts(long start) {
        long d = start;
        for (int a = 0; a < village.houseCount; a++) {
            for (int b = a + 1; b < village.houseCount; b++) {
                d = mix(d, village.debt(a, b));
            }
        }
        return d;
    }

    private static long mix(long d, long x) {
        return d * 31 + x;
    }

    private static boolean isWithin(int x, int least, int most) {
        return x >= least && x <= most;
    }

    private void needHouse(int number) {
        if (!village.hasHouse(number)) {
            throw new IndexOutOfBoundsException("no such house");
        }
    }

    private void needPipe(int number) {
        if (!village.hasPipe(number)) {
            throw new IndexOutOfBoundsException("no such pipe");
        }
    }

    private static void needIndex(boolean isGood) {
        if (!isGood) {
            throw new IndexOutOfBoundsException("number out of its range");
        }
    }

    private static void needArgument(boolean isGood) {
        if (!isGood) {
            throw new IllegalArgumentException("argument out of its range");
        }
    }

    private static void needState(boolean isGood) {
        if (!isGood) {
            throw new IllegalStateException("not possible now");
        }
    }

    /** The table of rain and leaves, which the village and its trial share. */
    private static final class Weather {
        static final int DAYS = 28;

        private final int[] rain = new int[DAYS];
        private final int[] leaves = new int[DAYS];

        void change(int day, int newRain, int newLeaves) {
            rain[day] = newRain;
            leaves[day] = newLeaves;
        }

        int code(int day) {
            return 10 * rain[day] + leaves[day];
        }

        int rainOn(int day) {
            return rain[Math.floorMod(day, DAYS)];
        }

        int leavesOn(int day) {
            return leaves[Math.floorMod(day, DAYS)];
        }

        int longestDryRow() {
            int longest = 0;
            int row = 0;
            // Twice round, so that a row over the table's end is seen whole.
            for (int i = 0; i < 2 * DAYS; i++) {
                row = rain[i % DAYS] > 0 ? 0 : row + 1;
                longest = Math.max(longest, row);
            }
            return Math.min(longest, DAYS);
        }
    }

    private static final class House {
        static final int WORST_CLOG = 10;
        static final int DRINK = 3;

        int roof;
        int holds;
        int water;
        int people;
        int garden;
        int clogged;
        int next = NONE;
        int thirst;
        int watered;
        int thirstyDays;

        void copy(House other) {
            roof = other.roof;
            holds = other.holds;
            water = other.water;
            people = other.people;
            garden = other.garden;
            clogged = other.clogged;
            next = other.next;
            thirst = other.thirst;
            watered = other.watered;
            thirstyDays = other.thirstyDays;
        }

        int fact(int what) {
            switch (what) {
                case 0: return roof;
                case 1: return holds;
                case 2: return water;
                case 3: return people;
                case 4: return garden;
                case 5: return clogged;
                case 6: return next;
                case 7: return thirst;
                case 8: return watered;
                default: return thirstyDays;
            }
        }

        void resize(int newHolds) {
            holds = newHolds;
            water = Math.min(water, newHolds);
        }

        int runOff(int rain) {
            return roof * rain * (WORST_CLOG - clogged) / 10;
        }

        /** Takes in what there is room for, and returns the rest. */
        int takeIn(int amount) {
            int taken = Math.min(amount, holds - water);
            water += taken;
            return amount - taken;
        }

        /** Returns what was drunk. */
        int drink() {
            int need = DRINK * people;
            int drunk = Math.min(need, water);
            water -= drunk;
            thirst += need - drunk;
            if (drunk < need) {
                thirstyDays++;
            }
            return drunk;
        }

        void waterGarden() {
            int overHalf = 2 * water - holds;
            if (overHalf > 0) {
                int given = Math.min(garden, overHalf / 2);
                water -= given;
                watered += given;
            }
        }

        void clog(int leaves) {
            clogged = Math.min(WORST_CLOG, clogged + leaves);
        }
    }

    private static final class Pipe {
        int a;
        int b;
        int lets;
        boolean isOpen;
        int through;
        // What b got from a, less what a got from b.
        int toB;

        void copy(Pipe other) {
            a = other.a;
            b = other.b;
            lets = other.lets;
            isOpen = other.isOpen;
            through = other.through;
            toB = other.toB;
        }

        int fact(int what) {
            switch (what) {
                case 0: return a;
                case 1: return b;
                case 2: return lets;
                case 3: return isOpen ? 1 : 0;
                default: return through;
            }
        }

        void evenOut(House first, House second) {
            int both = first.holds + second.holds;
            if (both <= 0) {
                return;
            }
            // Below 0 the second is the fuller one; / cuts both signs alike.
            int wanted = (first.water * second.holds - second.water * first.holds) / both;
            int flow = Math.max(-lets, Math.min(lets, wanted));
            first.water -= flow;
            second.water += flow;
            toB += flow;
            through += Math.abs(flow);
        }

        int debt(int of, int to) {
            if (of == b && to == a) {
                return toB;
            }
            return of == a && to == b ? -toB : 0;
        }
    }

    private static final class Village {
        static final int MOST_HOUSES = 10;
        static final int MOST_PIPES = 12;

        final Weather weather;
        final House[] houses = new House[MOST_HOUSES];
        final Pipe[] pipes = new Pipe[MOST_PIPES];
        int houseCount;
        int pipeCount;
        int day;
        int fromRoofs;
        int lost;
        int drunk;
        int carted;

        Village(Weather weather) {
            this.weather = weather;
            for (int i = 0; i < MOST_HOUSES; i++) {
                houses[i] = new House();
            }
            for (int i = 0; i < MOST_PIPES; i++) {
                pipes[i] = new Pipe();
            }
        }

        void copy(Village other) {
            houseCount = other.houseCount;
            pipeCount = other.pipeCount;
            day = other.day;
            fromRoofs = other.fromRoofs;
            lost = other.lost;
            drunk = other.drunk;
            carted = other.carted;
            for (int i = 0; i < houseCount; i++) {
                houses[i].copy(other.houses[i]);
            }
            for (int i = 0; i < pipeCount; i++) {
                pipes[i].copy(other.pipes[i]);
            }
        }

        boolean hasHouse(int number) {
            return number >= 0 && number < houseCount;
        }

        boolean hasPipe(int number) {
            return number >= 0 && number < pipeCount;
        }

        int addHouse(int roof, int holds, int people, int garden) {
            House added = houses[houseCount];
            added.roof = roof;
            added.holds = holds;
            added.people = people;
            added.garden = garden;
            return houseCount++;
        }

        int addPipe(int a, int b, int lets) {
            Pipe added = pipes[pipeCount];
            added.a = a;
            added.b = b;
            added.lets = lets;
            added.isOpen = true;
            return pipeCount++;
        }

        /** Tells whether what comes to the first house comes to the sought one too. */
        boolean flowsThrough(int first, int sought) {
            int at = first;
            for (int steps = 0; steps < houseCount && hasHouse(at); steps++) {
                if (at == sought) {
                    return true;
                }
                at = houses[at].next;
            }
            return false;
        }

        int chainLength(int first) {
            int length = 0;
            int at = first;
            while (length < houseCount && hasHouse(at)) {
                length++;
                at = houses[at].next;
            }
            return length;
        }

        /** Returns what is lost at the end of the chain. */
        int pour(int first, int amount) {
            int left = amount;
            int at = first;
            for (int steps = 0; steps < houseCount && hasHouse(at); steps++) {
                left = houses[at].takeIn(left);
                at = houses[at].next;
            }
            lost += left;
            return left;
        }

        /** Lets days go by, and returns the thirst in them. */
        int live(int days) {
            int before = allThirst();
            for (int i = 0; i < days; i++) {
                liveDay();
            }
            return allThirst() - before;
        }

        /** Returns the day, counted from 1, of the first thirst; NONE if there is none in so many days. */
        int daysToThirst(int number, int days) {
            House thirsty = houses[number];
            int before = thirsty.thirstyDays;
            for (int i = 1; i <= days; i++) {
                liveDay();
                if (thirsty.thirstyDays != before) {
                    return i;
                }
            }
            return NONE;
        }

        private void liveDay() {
            rainDown(weather.rainOn(day));
            for (int i = 0; i < houseCount; i++) {
                drunk += houses[i].drink();
            }
            for (int i = 0; i < houseCount; i++) {
                houses[i].waterGarden();
            }
            openPipesFlow();
            int leaves = weather.leavesOn(day);
            for (int i = 0; i < houseCount; i++) {
                houses[i].clog(leaves);
            }
            day++;
        }

        private void rainDown(int rain) {
            for (int i = 0; i < houseCount; i++) {
                int amount = houses[i].runOff(rain);
                fromRoofs += amount;
                pour(i, amount);
            }
        }

        private void openPipesFlow() {
            for (int i = 0; i < pipeCount; i++) {
                Pipe flowing = pipes[i];
                if (flowing.isOpen) {
                    flowing.evenOut(houses[flowing.a], houses[flowing.b]);
                }
            }
        }

        int debt(int of, int to) {
            int sum = 0;
            for (int i = 0; i < pipeCount; i++) {
                sum += pipes[i].debt(of, to);
            }
            return sum;
        }

        int total(int what) {
            switch (what) {
                case 0: return day;
                case 1: return houseCount;
                case 2: return pipeCount;
                case 3: return allWater();
                case 4: return allThirst();
                case 5: return fromRoofs;
                case 6: return lost;
                case 7: return drunk;
                case 8: return allWatered();
                case 9: return carted;
                default: return openValves();
            }
        }

        int allWater() {
            int sum = 0;
            for (int i = 0; i < houseCount; i++) {
                sum += houses[i].water;
            }
            return sum;
        }

        int allHolds() {
            int sum = 0;
            for (int i = 0; i < houseCount; i++) {
                sum += houses[i].holds;
            }
            return sum;
        }

        private int allThirst() {
            int sum = 0;
            for (int i = 0; i < houseCount; i++) {
                sum += houses[i].thirst;
            }
            return sum;
        }

        private int allWatered() {
            int sum = 0;
            for (int i = 0; i < houseCount; i++) {
                sum += houses[i].watered;
            }
            return sum;
        }

        private int openValves() {
            int open = 0;
            for (int i = 0; i < pipeCount; i++) {
                if (pipes[i].isOpen) {
                    open++;
                }
            }
            return open;
        }
    }
}
