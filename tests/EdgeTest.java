import java.math.BigInteger;

/**
 * Every sentence of the document that names a boundary case (too small, too large, empty, full, a wrap-around,
 * a refused call), each with a test of its own, which tells of which promise and which sentence it is; what a
 * sentence says between the words that are told here stands as " .. ".
 */
public final class EdgeTest {
    private interface Call {
        long answer();
    }

    private interface CallOf {
        long answer(int n);
    }

    private static final Class<?> INDEX = IndexOutOfBoundsException.class;
    private static final Class<?> ARGUMENT = IllegalArgumentException.class;
    private static final Class<?> STATE = IllegalStateException.class;

    private static String sentence = "";
    private static int wrong;

    public static void main(String[] args) {
        terms();
        aDay();
        refusedCalls();
        housesAndPipes();
        days();
        lookingAhead();
        System.out.println(wrong == 0 ? "all sentences hold" : wrong + " answers are not as due");
        System.exit(wrong == 0 ? 0 : 1);
    }

    private static void terms() {
        fiveHundredTwelveCalls();
        cutTowardsZero();
        daysFromZero();
        weatherByRemainder();
        weatherAtFirst();
        atMostTenHouses();
        lostAtFirst();
        neverBackToItself();
        atMostTwelvePipes();
        severalBetweenTheSame();
    }

    private static void aDay() {
        rainComes();
        rainOverflows();
        peopleDrink();
        gardensAboveHalf();
        gardensDownToHalf();
        gardensAsMuchAsNeeded();
        pipesOpenByNumbers();
        pipesEvenOut();
        pipesAtMostWhatTheyLet();
        guttersAtMostTen();
        theDayIsGreater();
    }

    private static void refusedCalls() {
        refusedChangesNothing();
        firstNamedIsThrown();
    }

    private static void housesAndPipes() {
        newVillage();
        setWeatherDay();
        setWeatherRainAndLeaves();
        setWeatherBefore();
        buildArguments();
        buildEleventh();
        chainLengths();
        chainNoSuchHouse();
        chainSame();
        chainBack();
        layNoSuchHouse();
        laySameOrLets();
        layThirteenth();
        turnWas();
        turnNoSuchPipe();
        cleanWas();
        cleanNoSuchHouse();
        cartOverflows();
        cartLost();
        cartNoSuchHouse();
        cartWater();
        setPeopleHad();
        setPeopleNoSuchHouse();
        setPeopleRange();
        houseFacts();
        houseRange();
        pipeFacts();
        pipeRange();
        owesInAll();
        owesNoSuchHouse();
    }

    private static void days() {
        passThirst();
        passRange();
        countEmpty();
        countFull();
        countRange();
    }

    private static void lookingAhead() {
        foreseeThem();
        foreseeChangesNothing();
        foreseeDays();
        foreseeWhat();
        lastsFirstThirst();
        lastsAtMost200();
        lastsNoSuchHouse();
        needsLeast();
        needsMost();
        needsWaterAtMost();
        needsAllElseAsItIs();
        needsNoSuchHouse();
        needsDays();
        dirtyLeastThirst();
        dirtyNone();
        dirtyDays();
        adviseLeastThirst();
        adviseNone();
        adviseDays();
        droughtRoundTheTable();
        droughtWithoutRain();
        fullOfAll();
        fullWithoutHouses();
        digestWraps();
        digestOrder();
        digestEachOther();
    }

    // ---- what the tests are made of

    private static void of(int promise, String words) {
        sentence = (promise > 0 ? "promise " + promise : "every promise") + ", \"" + words + "\"";
    }

    private static void tell(String text) {
        wrong++;
        System.out.println(sentence + ": " + text);
    }

    private static void due(String call, long want, Call c) {
        try {
            long got = c.answer();
            if (got != want) {
                tell(call + " answered " + got + ", due is " + want);
            }
        } catch (RuntimeException e) {
            tell(call + " threw " + e + ", due is " + want);
        }
    }

    private static void dueDouble(String call, double want, double got) {
        if (Double.compare(got, want) != 0) {
            tell(call + " answered " + got + ", due is " + want);
        }
    }

    /** The call throws just this class, and nothing that can be asked has changed; tells whether it is so. */
    private static boolean refuses(RoofWater x, String call, Class<?> want, Call c) {
        long before = x.digest();
        int wrongBefore = wrong;
        try {
            tell(call + " answered " + c.answer() + ", due is " + want);
        } catch (RuntimeException e) {
            if (e.getClass() != want) {
                tell(call + " threw " + e + ", due is " + want);
            }
        }
        if (x.digest() != before) {
            tell(call + " threw and changed the object");
        }
        return wrong == wrongBefore;
    }

    /** What lies beyond the least and the most is refused, next to them and far away. */
    private static void refusesBeyond(RoofWater x, int least, int most, Class<?> want, CallOf c) {
        for (int n : new int[] {least - 1, most + 1, Integer.MIN_VALUE, Integer.MAX_VALUE}) {
            // Where 101 days can go by, all the days of an int can too, and this test would hang, not fail.
            if (!refuses(x, "the call with " + n, want, () -> c.answer(n))) {
                return;
            }
        }
    }

    /** The least and the most are taken, and what lies beyond them is refused. */
    private static void takesOnly(RoofWater x, int least, int most, Class<?> want, CallOf c) {
        refusesBeyond(x, least, most, want, c);
        for (int n : new int[] {least, most}) {
            try {
                c.answer(n);
            } catch (RuntimeException e) {
                tell("the call with " + n + " threw " + e);
            }
        }
    }

    private static void dueHouse(RoofWater x, int house, int... want) {
        for (int i = 0; i < want.length; i++) {
            int what = i;
            due("house(" + house + ", " + what + ")", want[what], () -> x.house(house, what));
        }
    }

    private static void duePipe(RoofWater x, int pipe, int... want) {
        for (int i = 0; i < want.length; i++) {
            int what = i;
            due("pipe(" + pipe + ", " + what + ")", want[what], () -> x.pipe(pipe, what));
        }
    }

    private static void dueCounts(RoofWater x, int... want) {
        for (int i = 0; i < want.length; i++) {
            int what = i;
            due("count(" + what + ")", want[what], () -> x.count(what));
        }
    }

    private static void dueWater(RoofWater x, int... want) {
        for (int i = 0; i < want.length; i++) {
            int house = i;
            due("water of house " + house, want[house], () -> x.house(house, 2));
        }
    }

    private static RoofWater withHouses(int houses, int holds) {
        RoofWater x = new RoofWater();
        for (int i = 0; i < houses; i++) {
            x.build(10, holds, 0, 0);
        }
        return x;
    }

    /** One house with so much water. */
    private static RoofWater oneHouse(int roof, int holds, int people, int garden, int water) {
        RoofWater x = new RoofWater();
        x.build(roof, holds, people, garden);
        for (int left = water; left > 0; left -= 500) {
            x.cart(0, Math.min(500, left));
        }
        return x;
    }

    /** Ten houses in one chain and twelve pipes, with rain, leaves, thirst and debts behind them. */
    private static RoofWater fullVillage() {
        RoofWater x = new RoofWater();
        x.setWeather(0, 9, 1);
        for (int i = 0; i < 10; i++) {
            x.build(3 + i, 60 + 10 * i, i % 4, 2 * i);
        }
        for (int i = 0; i < 9; i++) {
            x.chain(i, i + 1);
        }
        for (int i = 0; i < 12; i++) {
            x.lay(i % 10, (i + 3) % 10, 5 + i);
        }
        x.pass(9);
        return x;
    }

    // ---- general sentences and terms

    private static void fiveHundredTwelveCalls() {
        of(13, "An object is used for at most 512 calls after it has been made.");
        RoofWater x = new RoofWater();
        for (int day = 0; day < 28; day++) {
            x.setWeather(day, 20, 0);
        }
        for (int i = 0; i < 10; i++) {
            x.build(30, 10, 9, 0);
        }
        // 28 + 10 + 472 calls; each day 600 come to each, 590 are lost, 10 drunk, and 17 short.
        for (int i = 0; i < 472; i++) {
            due("pass(100)", 17000, () -> x.pass(100));
        }
        due("call 511", 283_200_000, () -> x.count(5));
        due("call 512", 278_480_000, () -> x.count(6));
    }

    private static void cutTowardsZero() {
        of(13, "All numbers are whole, and / is cut towards 0.");
        RoofWater x = new RoofWater();
        x.setWeather(0, 0, 1);
        x.setWeather(1, 1, 0);
        x.build(1, 100, 0, 0);
        x.build(3, 100, 0, 0);
        x.build(9, 100, 0, 0);
        x.pass(2);
        // 9 / 10, 27 / 10, 81 / 10.
        dueWater(x, 0, 2, 8);
        due("came from roofs", 10, () -> x.count(5));
        for (int house = 0; house < 2; house++) {
            RoofWater y = withHouses(2, 10);
            y.lay(0, 1, 50);
            y.cart(house, 1);
            y.pass(1);
            // 10 / 20 of the one goes to the other, and 30 / 20 later on.
            dueWater(y, house == 0 ? 1 : 0, house);
            y.cart(house, 2);
            y.pass(1);
            dueWater(y, house == 0 ? 2 : 1, house == 0 ? 1 : 2);
        }
    }

    private static void daysFromZero() {
        of(13, "Days are told from 0.");
        RoofWater x = oneHouse(1, 100, 0, 0, 0);
        x.setWeather(0, 1, 0);
        x.setWeather(1, 3, 0);
        due("the first day", 0, () -> x.count(0));
        due("its rain ahead", 1, () -> x.foresee(1, 1));
        x.pass(1);
        dueWater(x, 1);
        due("the second day", 1, () -> x.count(0));
    }

    private static void weatherByRemainder() {
        of(13, "On the day d it is that with the number d by the remainder of 28.");
        RoofWater x = oneHouse(10, 900, 0, 0, 0);
        x.setWeather(0, 1, 2);
        x.setWeather(27, 5, 1);
        x.pass(1);
        dueWater(x, 10);
        due("leaves of day 0", 2, () -> x.clean(0));
        x.pass(26);
        dueWater(x, 10);
        due("ahead of day 27", 60, () -> x.foresee(1, 1));
        due("ahead of days 27 and 28", 69, () -> x.foresee(2, 1));
        x.pass(1);
        dueWater(x, 60);
        due("leaves of day 27", 1, () -> x.clean(0));
        x.pass(1);
        dueWater(x, 70);
        due("leaves of day 28", 2, () -> x.clean(0));
        x.pass(26);
        dueWater(x, 70);
        x.pass(1);
        dueWater(x, 120);
        due("leaves of day 55", 1, () -> x.clean(0));
        x.pass(1);
        dueWater(x, 130);
        due("leaves of day 56", 2, () -> x.clean(0));
        x.pass(100);
        due("day", 157, () -> x.count(0));
        // Days 83, 84, 111, 112, 139 and 140, clogged by 0, 1, 3, 4, 6 and 7.
        dueWater(x, 130 + 50 + 9 + 35 + 6 + 20 + 3);
    }

    private static void weatherAtFirst() {
        of(2, "A table tells for each of 28 days rain, 0 to 20 (0, at first), and leaves, 0 to 3 (0, at first).");
        RoofWater x = oneHouse(30, 900, 0, 0, 0);
        x.pass(29);
        dueWater(x, 0);
        due("clogged", 0, () -> x.house(0, 5));
        for (int i = 0; i < 28; i++) {
            int day = i;
            due("weather before of day " + day, 0, () -> x.setWeather(day, 20, 3));
        }
        for (int i = 0; i < 28; i++) {
            int day = i;
            due("weather of day " + day, 203, () -> x.setWeather(day, day % 21, day % 4));
        }
        for (int i = 0; i < 28; i++) {
            int day = i;
            due("weather again of day " + day, 10 * (day % 21) + day % 4, () -> x.setWeather(day, 0, 0));
        }
    }

    private static void atMostTenHouses() {
        of(3, "There are at most 10, numbered from 0 in the order of their building.");
        RoofWater x = new RoofWater();
        for (int i = 0; i < 10; i++) {
            int house = i;
            due("house " + house, house, () -> x.build(house + 1, 10 + house, house % 10, house));
            due("houses", house + 1, () -> x.count(1));
        }
        of(3, "Water in it (0, at first) .. clogged by 0 to 10 (0, at first).");
        for (int house = 0; house < 10; house++) {
            dueHouse(x, house, house + 1, 10 + house, 0, house % 10, house, 0, -1, 0, 0, 0);
        }
    }

    private static void lostAtFirst() {
        of(4, "What overflows goes to another house, or is lost (at first).");
        RoofWater x = withHouses(2, 10);
        due("lost of 11", 1, () -> x.cart(0, 11));
        dueWater(x, 10, 0);
        x.chain(0, 1);
        due("lost of 10 more", 0, () -> x.cart(0, 10));
        dueWater(x, 10, 10);
        x.pass(1);
        x.chain(0, -1);
        due("lost again", 1, () -> x.cart(0, 1));
    }

    private static void neverBackToItself() {
        of(4, "From no house it can come back to itself.");
        for (int houses = 2; houses <= 10; houses++) {
            RoofWater x = withHouses(houses, 10);
            int last = houses - 1;
            for (int i = 0; i < last; i++) {
                x.chain(i, i + 1);
            }
            for (int i = 0; i < last; i++) {
                int first = i;
                refuses(x, last + " to " + first, STATE, () -> x.chain(last, first));
            }
            due("all of them overflow", 500 - 10 * houses, () -> x.cart(0, 500));
        }
    }

    private static void atMostTwelvePipes() {
        of(5, "There are at most 12, numbered likewise .. has a valve, which is open or not (open, at first).");
        RoofWater x = withHouses(10, 10);
        for (int i = 0; i < 12; i++) {
            int pipe = i;
            due("pipe " + pipe, pipe, () -> x.lay(pipe % 10, (pipe + 1) % 10, 1 + 4 * pipe));
            due("pipes", pipe + 1, () -> x.count(2));
        }
        for (int pipe = 0; pipe < 12; pipe++) {
            duePipe(x, pipe, pipe % 10, (pipe + 1) % 10, 1 + 4 * pipe, 1, 0);
        }
    }

    private static void severalBetweenTheSame() {
        of(5, "There can be several between the same houses.");
        RoofWater x = withHouses(2, 200);
        x.cart(0, 200);
        for (int i = 0; i < 12; i++) {
            int pipe = i;
            due("pipe " + pipe, pipe, () -> x.lay(pipe % 2, 1 - pipe % 2, 3));
        }
        x.pass(1);
        dueWater(x, 164, 36);
        for (int pipe = 0; pipe < 12; pipe++) {
            duePipe(x, pipe, pipe % 2, 1 - pipe % 2, 3, 1, 3);
        }
        due("owes", 36, () -> x.owes(1, 0));
    }

    // ---- how a day goes

    private static void rainComes() {
        of(13, "Come roof * rain * (10 less how its gutter is clogged) / 10.");
        RoofWater x = new RoofWater();
        x.setWeather(0, 20, 3);
        x.setWeather(1, 0, 3);
        x.setWeather(2, 0, 3);
        x.setWeather(3, 20, 1);
        x.setWeather(4, 20, 0);
        x.build(30, 900, 0, 0);
        x.build(1, 900, 0, 0);
        x.pass(1);
        // The leaves of a day clog only what comes later.
        dueWater(x, 600, 20);
        x.pass(3);
        // Clogged by 9, a tenth comes; by 10, nothing.
        dueWater(x, 660, 22);
        x.pass(1);
        dueWater(x, 660, 22);
        due("came from roofs", 682, () -> x.count(5));
    }

    private static void rainOverflows() {
        of(13, "What it cannot hold overflows: it comes to the house to which this goes, and so on down the chain, "
            + "at once; at its end what is left is lost.");
        RoofWater x = new RoofWater();
        x.setWeather(0, 1, 0);
        x.build(10, 10, 0, 0);
        x.pass(1);
        dueWater(x, 10);
        due("just full, nothing is lost", 0, () -> x.count(6));
        RoofWater y = new RoofWater();
        y.setWeather(0, 1, 0);
        y.build(11, 10, 0, 0);
        y.pass(1);
        dueWater(y, 10);
        due("1 too much", 1, () -> y.count(6));
        RoofWater z = new RoofWater();
        z.setWeather(0, 1, 0);
        z.build(1, 10, 0, 0);
        z.build(1, 20, 0, 0);
        z.build(30, 12, 0, 0);
        z.chain(2, 0);
        z.chain(0, 1);
        z.pass(1);
        // 18 overflow: 9 to house 0, 9 to house 1.
        dueWater(z, 10, 10, 12);
        due("down the chain, nothing is lost", 0, () -> z.count(6));
        z.pass(28);
        // 1 goes on to house 1, which gets 1 of its own; of 30, 8 have room there.
        dueWater(z, 10, 20, 12);
        due("left at its end", 22, () -> z.count(6));
    }

    private static void peopleDrink() {
        of(13, "A house needs 3 for each of its people; it has as much as there is, and what is missing is thirst.");
        int[][] rows = {
            // people, water, thirst, days of thirst, water left
            {0, 0, 0, 0, 0}, {1, 0, 3, 1, 0}, {1, 2, 1, 1, 0}, {1, 3, 0, 0, 0}, {1, 4, 0, 0, 1},
            {9, 0, 27, 1, 0}, {9, 26, 1, 1, 0}, {9, 27, 0, 0, 0}, {9, 28, 0, 0, 1},
        };
        for (int[] row : rows) {
            RoofWater x = oneHouse(1, 100, row[0], 0, row[1]);
            due("thirst of " + row[0] + " with " + row[1], row[2], () -> x.pass(1));
            dueHouse(x, 0, 1, 100, row[4], row[0], 0, 0, -1, row[2], 0, row[3]);
            due("drunk by " + row[0] + " with " + row[1], row[1] - row[4], () -> x.count(7));
        }
    }

    private static void gardensAboveHalf() {
        of(13, "A house whose cistern is more than half full then (2 * its water is more than it holds) waters the "
            + "garden.");
        int[][] rows = {
            // holds, people, water, what the garden gets
            {10, 0, 0, 0}, {10, 0, 5, 0}, {10, 0, 6, 1}, {11, 0, 5, 0}, {11, 0, 6, 0}, {11, 0, 7, 1},
            // Then is when the people have drunk.
            {10, 1, 8, 0}, {10, 1, 9, 1}, {900, 0, 450, 0}, {900, 0, 451, 1},
        };
        for (int[] row : rows) {
            RoofWater x = oneHouse(1, row[0], row[1], 20, row[2]);
            x.pass(1);
            due("garden of " + row[2] + " in " + row[0], row[3], () -> x.house(0, 8));
            dueWater(x, row[2] - 3 * row[1] - row[3]);
        }
        // Then is before the pipes, too: half of it would go through.
        RoofWater y = oneHouse(1, 100, 0, 20, 100);
        y.build(1, 100, 0, 20);
        y.lay(0, 1, 50);
        y.pass(1);
        dueWater(y, 40, 40);
        due("garden before the pipe", 20, () -> y.house(0, 8));
        due("garden behind the pipe", 0, () -> y.house(1, 8));
    }

    private static void gardensDownToHalf() {
        of(13, "But only so that it is not less than half full (2 * its water is not less than it holds) then.");
        int[][] rows = {
            // holds, water, garden, what it gets
            {40, 40, 20, 20}, {40, 39, 20, 19}, {38, 38, 20, 19}, {39, 39, 20, 19}, {40, 40, 19, 19},
            {41, 41, 20, 20}, {900, 460, 20, 10},
        };
        for (int[] row : rows) {
            RoofWater x = oneHouse(1, row[0], 0, row[2], row[1]);
            x.pass(1);
            due("garden of " + row[1] + " in " + row[0], row[3], () -> x.house(0, 8));
            dueWater(x, row[1] - row[3]);
        }
    }

    private static void gardensAsMuchAsNeeded() {
        of(13, "Waters the garden with as much as this needs.");
        int[] gardens = {0, 1, 20};
        for (int garden : gardens) {
            RoofWater x = oneHouse(1, 900, 0, garden, 900);
            x.pass(22);
            due("garden of " + garden, 22 * garden, () -> x.house(0, 8));
            dueWater(x, 900 - 22 * garden);
        }
    }

    private static void pipesOpenByNumbers() {
        of(13, "Pipes with open valves, by numbers.");
        RoofWater x = withHouses(3, 100);
        x.lay(0, 1, 50);
        x.lay(1, 2, 50);
        x.cart(0, 100);
        x.pass(1);
        dueWater(x, 50, 25, 25);
        RoofWater y = withHouses(3, 100);
        y.lay(1, 2, 50);
        y.lay(0, 1, 50);
        y.cart(0, 100);
        y.pass(1);
        dueWater(y, 50, 50, 0);
        y.turn(0, false);
        y.turn(1, false);
        y.cart(0, 50);
        y.pass(3);
        dueWater(y, 100, 50, 0);
    }

    private static void pipesEvenOut() {
        of(13, "The fuller one (a, whose water * what b holds is more than the water of b * what a holds) gives the "
            + "other one (water of a * holds of b less water of b * holds of a) / (holds of a and holds of b).");
        int[][] rows = {
            // holds and water of both, what goes from the first to the second
            {10, 0, 10, 0, 0}, {10, 10, 10, 10, 0}, {100, 50, 50, 25, 0}, {100, 51, 50, 25, 0}, {100, 50, 50, 27, -1},
            {200, 20, 20, 10, -7}, {20, 10, 200, 20, 7}, {900, 900, 10, 0, 9}, {10, 0, 900, 900, -9},
            {10, 10, 900, 0, 9}, {900, 0, 10, 10, -9}, {100, 4, 100, 0, 2}, {100, 3, 100, 0, 1}, {100, 2, 100, 0, 1},
            {100, 1, 100, 0, 0},
        };
        for (int[] row : rows) {
            RoofWater x = oneHouse(1, row[0], 0, 0, row[1]);
            x.build(1, row[2], 0, 0);
            for (int left = row[3]; left > 0; left -= 500) {
                x.cart(1, Math.min(500, left));
            }
            x.lay(1, 0, 50);
            x.pass(1);
            String of = row[1] + " in " + row[0] + " and " + row[3] + " in " + row[2];
            due("the first one of " + of, row[1] - row[4], () -> x.house(0, 2));
            due("the second one of " + of, row[3] + row[4], () -> x.house(1, 2));
            due("what went through of " + of, Math.abs(row[4]), () -> x.pipe(0, 4));
            due("what the second owes of " + of, row[4], () -> x.owes(1, 0));
        }
    }

    private static void pipesAtMostWhatTheyLet() {
        of(13, "But at most what the pipe lets through.");
        int[][] rows = {
            // lets, water of the fuller one, what goes through
            {1, 100, 1}, {1, 1, 0}, {50, 100, 50}, {49, 100, 49}, {50, 99, 49}, {50, 102, 50}, {50, 200, 50},
        };
        for (int[] row : rows) {
            for (int house = 0; house < 2; house++) {
                RoofWater x = withHouses(2, 200);
                x.cart(house, row[1]);
                x.lay(0, 1, row[0]);
                x.pass(1);
                dueWater(x, house == 0 ? row[1] - row[2] : row[2], house == 0 ? row[2] : row[1] - row[2]);
            }
        }
    }

    private static void guttersAtMostTen() {
        of(13, "Each one is clogged by as much more as the leaves of the day, at most 10.");
        int[] want = {3, 6, 9, 10, 10, 10, 10};
        RoofWater x = oneHouse(1, 10, 0, 0, 0);
        for (int day = 0; day < want.length; day++) {
            x.setWeather(day, 0, 3);
            x.pass(1);
            due("clogged by 3 a day", want[day], () -> x.house(0, 5));
        }
        RoofWater y = withHouses(10, 10);
        for (int day = 0; day < 10; day++) {
            y.setWeather(day, 0, 1);
        }
        y.pass(10);
        due("clogged by 1 a day", 10, () -> y.house(9, 5));
        y.clean(9);
        y.pass(19);
        due("clogged again", 1, () -> y.house(9, 5));
        due("still clogged", 10, () -> y.house(8, 5));
    }

    private static void theDayIsGreater() {
        of(13, "The day is 1 greater.");
        RoofWater x = new RoofWater();
        x.pass(1);
        due("day", 1, () -> x.count(0));
        x.pass(100);
        due("day", 101, () -> x.count(0));
    }

    // ---- refused calls

    private static void refusedChangesNothing() {
        of(0, "A method that throws an exception changes nothing.");
        RoofWater x = fullVillage();
        refuses(x, "setWeather, leaves 4", ARGUMENT, () -> x.setWeather(0, 5, 4));
        refuses(x, "setWeather, day 28", INDEX, () -> x.setWeather(28, 5, 2));
        refuses(x, "build, an eleventh", STATE, () -> x.build(1, 10, 0, 0));
        refuses(x, "build, garden 21", ARGUMENT, () -> x.build(1, 10, 0, 21));
        refuses(x, "chain to 10", INDEX, () -> x.chain(0, 10));
        refuses(x, "chain to itself", ARGUMENT, () -> x.chain(0, 0));
        refuses(x, "chain back", STATE, () -> x.chain(9, 0));
        refuses(x, "lay to 10", INDEX, () -> x.lay(0, 10, 1));
        refuses(x, "lay to itself", ARGUMENT, () -> x.lay(0, 0, 1));
        refuses(x, "lay a thirteenth", STATE, () -> x.lay(0, 1, 1));
        refuses(x, "turn 12", INDEX, () -> x.turn(12, false) ? 1 : 0);
        refuses(x, "clean 10", INDEX, () -> x.clean(10));
        refuses(x, "cart to 10", INDEX, () -> x.cart(10, 1));
        refuses(x, "cart 501", ARGUMENT, () -> x.cart(0, 501));
        refuses(x, "setPeople of 10", INDEX, () -> x.setPeople(10, 0));
        refuses(x, "setPeople 10", ARGUMENT, () -> x.setPeople(0, 10));
        refuses(x, "house 10", INDEX, () -> x.house(10, 0));
        refuses(x, "pipe 12", INDEX, () -> x.pipe(12, 0));
        refuses(x, "owes 10", INDEX, () -> x.owes(10, 0));
        refuses(x, "pass 101", ARGUMENT, () -> x.pass(101));
        refuses(x, "count 11", INDEX, () -> x.count(11));
        refuses(x, "foresee 101", ARGUMENT, () -> x.foresee(101, 0));
        refuses(x, "foresee what 3", INDEX, () -> x.foresee(1, 3));
        refuses(x, "lasts 10", INDEX, () -> x.lasts(10));
        refuses(x, "needs 10", INDEX, () -> x.needs(10, 1));
        refuses(x, "needs in 61", ARGUMENT, () -> x.needs(0, 61));
        refuses(x, "dirty 61", ARGUMENT, () -> x.dirty(61));
        refuses(x, "advise 61", ARGUMENT, () -> x.advise(61));
        // And what it does afterwards is what one does that has refused nothing.
        RoofWater y = fullVillage();
        x.pass(40);
        y.pass(40);
        due("digest 40 days later", y.digest(), x::digest);
    }

    private static void firstNamedIsThrown() {
        of(0, "If several exceptions apply, the one that is named first is thrown.");
        RoofWater x = fullVillage();
        refuses(x, "setWeather, day and rain", INDEX, () -> x.setWeather(28, 21, 0));
        refuses(x, "setWeather, day and leaves", INDEX, () -> x.setWeather(-1, 0, 4));
        refuses(x, "build, roof and an eleventh", ARGUMENT, () -> x.build(0, 10, 0, 0));
        refuses(x, "build, holds and an eleventh", ARGUMENT, () -> x.build(1, 9, 0, 0));
        refuses(x, "build, people and an eleventh", ARGUMENT, () -> x.build(1, 10, 10, 0));
        refuses(x, "build, garden and an eleventh", ARGUMENT, () -> x.build(1, 10, 0, 21));
        refuses(x, "chain, no such one, both the same", INDEX, () -> x.chain(10, 10));
        refuses(x, "chain, no such one, both -1", INDEX, () -> x.chain(-1, -1));
        refuses(x, "chain, both the same, it would come back", ARGUMENT, () -> x.chain(5, 5));
        refuses(x, "lay, no such one, both the same", INDEX, () -> x.lay(10, 10, 1));
        refuses(x, "lay, no such one, lets 0", INDEX, () -> x.lay(0, -1, 0));
        refuses(x, "lay, no such one, a thirteenth", INDEX, () -> x.lay(10, 0, 1));
        refuses(x, "lay, both the same, a thirteenth", ARGUMENT, () -> x.lay(3, 3, 1));
        refuses(x, "lay, lets 51, a thirteenth", ARGUMENT, () -> x.lay(0, 1, 51));
        refuses(x, "cart, no such one, water 0", INDEX, () -> x.cart(10, 0));
        refuses(x, "setPeople, no such one, people 10", INDEX, () -> x.setPeople(-1, 10));
        refuses(x, "foresee, days 0, what 3", ARGUMENT, () -> x.foresee(0, 3));
        refuses(x, "foresee, days 101, what -1", ARGUMENT, () -> x.foresee(101, -1));
        refuses(x, "needs, no such one, days 0", INDEX, () -> x.needs(10, 0));
        refuses(x, "needs, no such one, days 61", INDEX, () -> x.needs(-1, 61));
    }

    // ---- promises 1 to 12

    private static void newVillage() {
        of(1, "Creates a village without houses, on the day 0.");
        RoofWater x = new RoofWater();
        dueCounts(x, 0, 0, 0, 0, 0, 0, 0, 0, 0, 0, 0);
        refuses(x, "chain", INDEX, () -> x.chain(0, -1));
        refuses(x, "lay", INDEX, () -> x.lay(0, 1, 1));
        refuses(x, "turn", INDEX, () -> x.turn(0, true) ? 1 : 0);
        refuses(x, "clean", INDEX, () -> x.clean(0));
        refuses(x, "cart", INDEX, () -> x.cart(0, 1));
        refuses(x, "setPeople", INDEX, () -> x.setPeople(0, 1));
        refuses(x, "house", INDEX, () -> x.house(0, 0));
        refuses(x, "pipe", INDEX, () -> x.pipe(0, 0));
        refuses(x, "owes", INDEX, () -> x.owes(0, 0));
        refuses(x, "lasts", INDEX, () -> x.lasts(0));
        refuses(x, "needs", INDEX, () -> x.needs(0, 1));
        for (int i = 0; i < 3; i++) {
            int what = i;
            due("foresee " + what, 0, () -> x.foresee(100, what));
        }
        due("dirty", -1, () -> x.dirty(60));
        due("advise", -1, () -> x.advise(60));
        due("drought", 28, x::drought);
        dueDouble("full", 0.0, x.full());
        due("pass", 0, () -> x.pass(100));
        dueCounts(x, 100, 0, 0, 0, 0, 0, 0, 0, 0, 0, 0);
        dueCounts(new RoofWater(), 0, 0, 0, 0, 0, 0, 0, 0, 0, 0, 0);
    }

    private static void setWeatherDay() {
        of(2, "Throws IndexOutOfBoundsException if day is not 0 to 27");
        RoofWater x = new RoofWater();
        takesOnly(x, 0, 27, INDEX, n -> x.setWeather(n, 1, 1));
        due("day 0", 11, () -> x.setWeather(0, 0, 0));
        due("day 27", 11, () -> x.setWeather(27, 0, 0));
    }

    private static void setWeatherRainAndLeaves() {
        of(2, "Throws IllegalArgumentException if rain is not 0 to 20, or leaves is not 0 to 3");
        RoofWater x = new RoofWater();
        takesOnly(x, 0, 20, ARGUMENT, n -> x.setWeather(3, n, 0));
        due("rain 20 stands", 200, () -> x.setWeather(3, 0, 0));
        takesOnly(x, 0, 3, ARGUMENT, n -> x.setWeather(3, 0, n));
        due("leaves 3 stand", 3, () -> x.setWeather(3, 0, 0));
        refuses(x, "both", ARGUMENT, () -> x.setWeather(3, 21, 4));
    }

    private static void setWeatherBefore() {
        of(2, "Returns the weather before: 10 * rain and leaves.");
        RoofWater x = new RoofWater();
        due("at first", 0, () -> x.setWeather(27, 20, 3));
        due("the most", 203, () -> x.setWeather(27, 20, 0));
        due("rain alone", 200, () -> x.setWeather(27, 0, 3));
        due("leaves alone", 3, () -> x.setWeather(27, 0, 0));
        due("the least", 0, () -> x.setWeather(27, 0, 0));
        due("its neighbour", 0, () -> x.setWeather(26, 0, 0));
    }

    private static void buildArguments() {
        of(3, "Throws IllegalArgumentException if roof is not 1 to 30, holds is not 10 to 900, people is not 0 to 9, "
            + "or garden is not 0 to 20");
        RoofWater x = new RoofWater();
        takesOnly(x, 1, 30, ARGUMENT, n -> x.build(n, 10, 0, 0));
        takesOnly(x, 10, 900, ARGUMENT, n -> x.build(1, n, 0, 0));
        takesOnly(x, 0, 9, ARGUMENT, n -> x.build(1, 10, n, 0));
        takesOnly(x, 0, 20, ARGUMENT, n -> x.build(1, 10, 0, n));
        due("houses", 8, () -> x.count(1));
        dueHouse(x, 1, 30, 10, 0, 0, 0, 0, -1, 0, 0, 0);
        dueHouse(x, 3, 1, 900, 0, 0, 0, 0, -1, 0, 0, 0);
        dueHouse(x, 5, 1, 10, 0, 9, 0, 0, -1, 0, 0, 0);
        dueHouse(x, 7, 1, 10, 0, 0, 20, 0, -1, 0, 0, 0);
    }

    private static void buildEleventh() {
        of(3, "Throws IllegalStateException if there are 10");
        RoofWater x = withHouses(9, 10);
        due("the tenth", 9, () -> x.build(30, 900, 9, 20));
        refuses(x, "the eleventh", STATE, () -> x.build(30, 900, 9, 20));
        x.pass(1);
        refuses(x, "the eleventh later", STATE, () -> x.build(1, 10, 0, 0));
    }

    private static void chainLengths() {
        of(4, "Returns how many houses it goes through behind this one, till it is lost.");
        RoofWater x = withHouses(10, 10);
        due("to none, as it is", 0, () -> x.chain(0, -1));
        for (int i = 8; i >= 0; i--) {
            int house = i;
            due("from " + house, 9 - house, () -> x.chain(house, house + 1));
        }
        due("past all but the last", 1, () -> x.chain(0, 9));
        due("past the second", 8, () -> x.chain(0, 2));
        due("to where it goes", 8, () -> x.chain(0, 2));
        due("to all others", 9, () -> x.chain(0, 1));
        due("to none", 0, () -> x.chain(0, -1));
        due("none stands", -1, () -> x.house(0, 6));
    }

    private static void chainNoSuchHouse() {
        of(4, "Throws IndexOutOfBoundsException if there is no such house, or no such other one, but -1");
        RoofWater x = withHouses(3, 10);
        refusesBeyond(x, 0, 2, INDEX, n -> x.chain(n, -1));
        refusesBeyond(x, 0, 2, INDEX, n -> x.chain(n, 1));
        refusesBeyond(x, -1, 2, INDEX, n -> x.chain(1, n));
        due("the first to -1", 0, () -> x.chain(0, -1));
        due("the last to -1", 0, () -> x.chain(2, -1));
        due("the last to the first", 1, () -> x.chain(2, 0));
    }

    private static void chainSame() {
        of(4, "Throws IllegalArgumentException if both are the same");
        RoofWater x = withHouses(3, 10);
        x.chain(0, 1);
        for (int i = 0; i < 3; i++) {
            int house = i;
            refuses(x, house + " to itself", ARGUMENT, () -> x.chain(house, house));
        }
    }

    private static void chainBack() {
        of(4, "Throws IllegalStateException if it would come back to this house");
        RoofWater x = withHouses(4, 10);
        x.chain(0, 1);
        refuses(x, "at once", STATE, () -> x.chain(1, 0));
        x.chain(1, 2);
        x.chain(2, 3);
        refuses(x, "behind one", STATE, () -> x.chain(2, 0));
        refuses(x, "behind two", STATE, () -> x.chain(3, 0));
        due("to where it goes is not back", 3, () -> x.chain(0, 1));
        // That 1 goes to 2 now does not hinder that it goes elsewhere from now on; but 3 comes back.
        x.chain(2, -1);
        x.chain(3, 1);
        refuses(x, "behind the one that comes to it", STATE, () -> x.chain(1, 3));
        x.chain(3, -1);
        due("when it comes no more", 1, () -> x.chain(1, 3));
        due("next of 1", 3, () -> x.house(1, 6));
    }

    private static void layNoSuchHouse() {
        of(5, "Throws IndexOutOfBoundsException if there is no such house");
        RoofWater x = withHouses(3, 10);
        refusesBeyond(x, 0, 2, INDEX, n -> x.lay(n, 1, 1));
        refusesBeyond(x, 0, 2, INDEX, n -> x.lay(1, n, 1));
        due("the first and the last", 0, () -> x.lay(0, 2, 1));
        due("the last and the first", 1, () -> x.lay(2, 0, 1));
    }

    private static void laySameOrLets() {
        of(5, "Throws IllegalArgumentException if both are the same, or lets is not 1 to 50");
        RoofWater x = withHouses(3, 10);
        for (int i = 0; i < 3; i++) {
            int house = i;
            refuses(x, "both " + house, ARGUMENT, () -> x.lay(house, house, 1));
        }
        takesOnly(x, 1, 50, ARGUMENT, n -> x.lay(0, 2, n));
        duePipe(x, 0, 0, 2, 1, 1, 0);
        duePipe(x, 1, 0, 2, 50, 1, 0);
    }

    private static void layThirteenth() {
        of(5, "Throws IllegalStateException if there are 12");
        RoofWater x = withHouses(2, 10);
        for (int i = 0; i < 11; i++) {
            x.lay(0, 1, 1);
        }
        due("the twelfth", 11, () -> x.lay(1, 0, 50));
        refuses(x, "the thirteenth", STATE, () -> x.lay(1, 0, 50));
        x.turn(11, false);
        refuses(x, "the thirteenth, when one is closed", STATE, () -> x.lay(0, 1, 1));
    }

    private static void turnWas() {
        of(6, "Returns whether it was.");
        RoofWater x = withHouses(2, 10);
        x.lay(0, 1, 1);
        x.lay(0, 1, 1);
        due("opened though it is open", 1, () -> x.turn(1, true) ? 1 : 0);
        due("closed", 1, () -> x.turn(1, false) ? 1 : 0);
        due("closed though it is closed", 0, () -> x.turn(1, false) ? 1 : 0);
        due("opened", 0, () -> x.turn(1, true) ? 1 : 0);
        due("the other one", 1, () -> x.turn(0, true) ? 1 : 0);
    }

    private static void turnNoSuchPipe() {
        of(6, "Throws IndexOutOfBoundsException if there is no such pipe");
        RoofWater x = withHouses(10, 10);
        refuses(x, "houses, but no pipe", INDEX, () -> x.turn(0, true) ? 1 : 0);
        x.lay(0, 1, 1);
        refusesBeyond(x, 0, 0, INDEX, n -> x.turn(n, false) ? 1 : 0);
        for (int i = 1; i < 12; i++) {
            x.lay(0, 1, 1);
        }
        takesOnly(x, 0, 11, INDEX, n -> x.turn(n, false) ? 1 : 0);
        due("open valves", 10, () -> x.count(10));
    }

    private static void cleanWas() {
        of(7, "Returns by how much it was clogged.");
        RoofWater x = withHouses(2, 100);
        due("at first", 0, () -> x.clean(0));
        for (int day = 0; day < 4; day++) {
            x.setWeather(day, 0, 3);
        }
        x.setWeather(4, 1, 0);
        x.pass(4);
        due("the most", 10, () -> x.clean(0));
        due("again", 0, () -> x.clean(0));
        x.pass(1);
        dueWater(x, 10, 0);
    }

    private static void cleanNoSuchHouse() {
        of(7, "Throws IndexOutOfBoundsException if there is no such house");
        RoofWater x = fullVillage();
        takesOnly(x, 0, 9, INDEX, x::clean);
        RoofWater y = withHouses(1, 10);
        takesOnly(y, 0, 0, INDEX, y::clean);
    }

    private static void cartOverflows() {
        of(8, "What the cistern cannot hold overflows as in the rain.");
        RoofWater x = withHouses(3, 10);
        x.chain(0, 2);
        x.cart(0, 10);
        dueWater(x, 10, 0, 0);
        x.cart(0, 1);
        dueWater(x, 10, 0, 1);
        x.cart(0, 9);
        dueWater(x, 10, 0, 10);
        x.cart(0, 500);
        dueWater(x, 10, 0, 10);
        due("the one that is not in the chain", 0, () -> x.house(1, 2));
        due("it is not from roofs", 0, () -> x.count(5));
    }

    private static void cartLost() {
        of(8, "Returns how much of it is lost at the end of the chain.");
        RoofWater x = withHouses(2, 250);
        due("to one that is empty", 0, () -> x.cart(0, 250));
        due("to one that is full", 1, () -> x.cart(0, 1));
        x.chain(0, 1);
        due("down the chain", 0, () -> x.cart(0, 250));
        due("down a full chain", 500, () -> x.cart(0, 500));
        due("lost in all", 501, () -> x.count(6));
        due("brought in all", 1001, () -> x.count(9));
        RoofWater y = withHouses(2, 250);
        y.chain(0, 1);
        due("just as much as both hold", 0, () -> y.cart(0, 500));
        dueWater(y, 250, 250);
        RoofWater z = withHouses(1, 499);
        due("1 more than it holds", 1, () -> z.cart(0, 500));
    }

    private static void cartNoSuchHouse() {
        of(8, "Throws IndexOutOfBoundsException if there is no such house");
        RoofWater x = fullVillage();
        takesOnly(x, 0, 9, INDEX, n -> x.cart(n, 1));
        RoofWater y = withHouses(1, 10);
        takesOnly(y, 0, 0, INDEX, n -> y.cart(n, 1));
    }

    private static void cartWater() {
        of(8, "Throws IllegalArgumentException if water is not 1 to 500");
        RoofWater x = withHouses(1, 900);
        takesOnly(x, 1, 500, ARGUMENT, n -> x.cart(0, n));
        dueWater(x, 501);
    }

    private static void setPeopleHad() {
        of(9, "Returns how many it had.");
        RoofWater x = withHouses(2, 10);
        due("at first", 0, () -> x.setPeople(1, 9));
        due("the most", 9, () -> x.setPeople(1, 9));
        due("the same", 9, () -> x.setPeople(1, 0));
        due("none", 0, () -> x.setPeople(1, 1));
        due("fact", 1, () -> x.house(1, 3));
        due("the other house", 0, () -> x.house(0, 3));
    }

    private static void setPeopleNoSuchHouse() {
        of(9, "Throws IndexOutOfBoundsException if there is no such house");
        RoofWater x = fullVillage();
        takesOnly(x, 0, 9, INDEX, n -> x.setPeople(n, 7));
        RoofWater y = withHouses(1, 10);
        takesOnly(y, 0, 0, INDEX, n -> y.setPeople(n, 7));
    }

    private static void setPeopleRange() {
        of(9, "Throws IllegalArgumentException if people is not 0 to 9");
        RoofWater x = withHouses(1, 10);
        takesOnly(x, 0, 9, ARGUMENT, n -> x.setPeople(0, n));
        due("9 stand", 9, () -> x.house(0, 3));
        due("they are thirsty", 27, () -> x.pass(1));
    }

    private static void houseFacts() {
        of(10, "5 how its gutter is clogged, 6 the house to which what overflows goes, -1 if it is lost, 7 its thirst, "
            + "8 what the garden got in all, 9 days on which there was thirst");
        RoofWater x = new RoofWater();
        x.setWeather(0, 0, 2);
        x.build(30, 20, 2, 20);
        x.build(1, 10, 0, 0);
        dueHouse(x, 0, 30, 20, 0, 2, 20, 0, -1, 0, 0, 0);
        x.chain(0, 1);
        x.cart(0, 20);
        x.pass(1);
        // 14: 4 to the garden; 10: none; then 4; then 2 short; then 6 short.
        dueHouse(x, 0, 30, 20, 10, 2, 20, 2, 1, 0, 4, 0);
        x.pass(1);
        dueHouse(x, 0, 30, 20, 4, 2, 20, 2, 1, 0, 4, 0);
        x.pass(1);
        dueHouse(x, 0, 30, 20, 0, 2, 20, 2, 1, 2, 4, 1);
        x.pass(1);
        dueHouse(x, 0, 30, 20, 0, 2, 20, 2, 1, 8, 4, 2);
        x.chain(0, -1);
        dueHouse(x, 0, 30, 20, 0, 2, 20, 2, -1, 8, 4, 2);
        dueHouse(x, 1, 1, 10, 0, 0, 0, 2, -1, 0, 0, 0);
    }

    private static void houseRange() {
        of(10, "Throws IndexOutOfBoundsException if there is no such house, or what is not 0 to 9");
        RoofWater x = fullVillage();
        takesOnly(x, 0, 9, INDEX, n -> x.house(n, 0));
        takesOnly(x, 0, 9, INDEX, n -> x.house(9, n));
        RoofWater y = withHouses(1, 10);
        takesOnly(y, 0, 0, INDEX, n -> y.house(n, 9));
        refuses(y, "both", INDEX, () -> y.house(1, 10));
    }

    private static void pipeFacts() {
        of(11, "0 and 1 the houses, as they were told .. 3 1 if its valve is open, else 0, "
            + "4 what went through in all, in both directions");
        RoofWater x = withHouses(2, 100);
        x.lay(1, 0, 30);
        duePipe(x, 0, 1, 0, 30, 1, 0);
        x.pass(1);
        duePipe(x, 0, 1, 0, 30, 1, 0);
        x.cart(1, 60);
        x.pass(1);
        duePipe(x, 0, 1, 0, 30, 1, 30);
        x.cart(0, 40);
        x.pass(1);
        duePipe(x, 0, 1, 0, 30, 1, 50);
        x.turn(0, false);
        x.cart(0, 30);
        x.pass(1);
        duePipe(x, 0, 1, 0, 30, 0, 50);
    }

    private static void pipeRange() {
        of(11, "Throws IndexOutOfBoundsException if there is no such pipe, or what is not 0 to 4");
        RoofWater x = fullVillage();
        takesOnly(x, 0, 11, INDEX, n -> x.pipe(n, 0));
        takesOnly(x, 0, 4, INDEX, n -> x.pipe(11, n));
        RoofWater y = withHouses(10, 10);
        refuses(y, "houses, but no pipe", INDEX, () -> y.pipe(0, 0));
        y.lay(0, 1, 1);
        takesOnly(y, 0, 0, INDEX, n -> y.pipe(n, 4));
        refuses(y, "both", INDEX, () -> y.pipe(1, 5));
    }

    private static void owesInAll() {
        of(12, "Returns what a got from b through pipes in all, less what b got from a.");
        RoofWater x = withHouses(3, 100);
        x.lay(0, 1, 50);
        x.lay(1, 0, 50);
        due("nothing yet", 0, () -> x.owes(0, 1));
        due("itself", 0, () -> x.owes(0, 0));
        x.cart(0, 60);
        x.pass(1);
        due("got", 30, () -> x.owes(1, 0));
        due("gave", -30, () -> x.owes(0, 1));
        due("itself", 0, () -> x.owes(1, 1));
        due("without a pipe", 0, () -> x.owes(2, 0));
        x.cart(1, 60);
        x.pass(1);
        due("quits", 0, () -> x.owes(1, 0));
        x.cart(1, 20);
        x.pass(1);
        due("the other way", 10, () -> x.owes(0, 1));
        due("gave", -10, () -> x.owes(1, 0));
    }

    private static void owesNoSuchHouse() {
        of(12, "Throws IndexOutOfBoundsException if there is no such house");
        RoofWater x = fullVillage();
        takesOnly(x, 0, 9, INDEX, n -> x.owes(n, 4));
        takesOnly(x, 0, 9, INDEX, n -> x.owes(4, n));
        RoofWater y = withHouses(1, 10);
        takesOnly(y, 0, 0, INDEX, n -> y.owes(n, 0));
        refuses(y, "both", INDEX, () -> y.owes(1, 1));
    }

    // ---- promises 13 and 14

    private static void passThirst() {
        of(13, "Returns how much thirst there was in them.");
        RoofWater x = oneHouse(1, 10, 3, 0, 9);
        x.build(1, 10, 1, 0);
        due("of the second house alone", 3, () -> x.pass(1));
        due("without what was before", 12, () -> x.pass(1));
        due("in the most days", 1200, () -> x.pass(100));
        due("all thirst", 1215, () -> x.count(4));
        x.setPeople(0, 0);
        x.setPeople(1, 0);
        due("nobody", 0, () -> x.pass(100));
    }

    private static void passRange() {
        of(13, "Throws IllegalArgumentException if days is not 1 to 100");
        RoofWater x = fullVillage();
        takesOnly(x, 1, 100, ARGUMENT, x::pass);
        due("day", 110, () -> x.count(0));
    }

    private static void countEmpty() {
        of(14, "0 the day, 1 houses, 2 pipes, 3 all water, 4 all thirst, 5 what came from roofs in all, 6 what was "
            + "lost in all, 7 what was drunk in all, 8 what gardens got in all, 9 what carts brought in all, "
            + "10 open valves");
        RoofWater x = withHouses(3, 10);
        x.lay(0, 1, 1);
        x.lay(1, 2, 1);
        dueCounts(x, 0, 3, 2, 0, 0, 0, 0, 0, 0, 0, 2);
        x.turn(0, false);
        dueCounts(x, 0, 3, 2, 0, 0, 0, 0, 0, 0, 0, 1);
        x.turn(1, false);
        x.pass(1);
        dueCounts(x, 1, 3, 2, 0, 0, 0, 0, 0, 0, 0, 0);
    }

    private static void countFull() {
        of(14, "0 the day, 1 houses, 2 pipes, 3 all water, 4 all thirst, 5 what came from roofs in all, 6 what was "
            + "lost in all, 7 what was drunk in all, 8 what gardens got in all, 9 what carts brought in all, "
            + "10 open valves");
        RoofWater x = new RoofWater();
        x.setWeather(0, 20, 3);
        for (int i = 0; i < 10; i++) {
            x.build(30, 900, 9, 20);
            x.cart(i, 500);
            x.cart(i, 500);
        }
        for (int i = 0; i < 12; i++) {
            x.lay(i % 10, (i + 1) % 10, 50);
        }
        dueCounts(x, 0, 10, 12, 9000, 0, 0, 1000, 0, 0, 10000, 12);
        x.pass(1);
        dueCounts(x, 1, 10, 12, 8530, 0, 6000, 7000, 270, 200, 10000, 12);
        x.pass(100);
        // Rain on days 28, 56 and 84, clogged by 3, 6 and 9: 420, 240 and 60 come to each.
        due("came from roofs", 6000 + 4200 + 2400 + 600, () -> x.count(5));
        due("water and where it went", 10000 + 13200,
            () -> x.count(3) + x.count(6) + x.count(7) + x.count(8));
        due("drunk and thirst", 270 * 101, () -> x.count(7) + x.count(4));
        due("nothing more is lost", 7000, () -> x.count(6));
    }

    private static void countRange() {
        of(14, "Throws IndexOutOfBoundsException if what is not 0 to 10");
        RoofWater x = fullVillage();
        takesOnly(x, 0, 10, INDEX, x::count);
        RoofWater y = new RoofWater();
        takesOnly(y, 0, 10, INDEX, y::count);
    }

    // ---- promises 15 to 22

    private static void foreseeThem() {
        of(15, "0 the thirst in them, 1 all water then, 2 what is lost in them");
        RoofWater x = oneHouse(30, 10, 1, 0, 15);
        x.pass(5);
        // 10, 7, 4, 1; then 2, 3 short; 5 are lost.
        due("thirst before", 5, () -> x.count(4));
        due("lost before", 5, () -> x.count(6));
        due("thirst in them alone", 3, () -> x.foresee(1, 0));
        due("nothing is lost in them", 0, () -> x.foresee(1, 2));
        x.setWeather(5, 1, 0);
        due("no thirst", 0, () -> x.foresee(1, 0));
        due("water then", 7, () -> x.foresee(1, 1));
        due("lost in them", 20, () -> x.foresee(1, 2));
        // Rain on days 5, 33, 61 and 89: 2 short on the third day behind each, then 3 a day.
        due("thirst in the most days", 3 * (2 + 24 * 3) + 2 + 12 * 3, () -> x.foresee(100, 0));
        due("lost in the most days", 80, () -> x.foresee(100, 2));
    }

    private static void foreseeChangesNothing() {
        of(15, "Returns this, if nothing is done (nothing is changed).");
        RoofWater x = fullVillage();
        long before = x.digest();
        long thirst = x.foresee(100, 0);
        long water = x.foresee(100, 1);
        long lost = x.foresee(100, 2);
        due("digest", before, x::digest);
        due("the same again", thirst, () -> x.foresee(100, 0));
        long lostBefore = x.count(6);
        due("it comes to pass", thirst, () -> x.pass(100));
        due("water", water, () -> x.count(3));
        due("lost", lost, () -> x.count(6) - lostBefore);
    }

    private static void foreseeDays() {
        of(15, "Throws IllegalArgumentException if days is not 1 to 100");
        RoofWater x = fullVillage();
        takesOnly(x, 1, 100, ARGUMENT, n -> x.foresee(n, 0));
    }

    private static void foreseeWhat() {
        of(15, "Throws IndexOutOfBoundsException if what is not 0 to 2");
        RoofWater x = fullVillage();
        takesOnly(x, 0, 2, INDEX, n -> x.foresee(100, n));
    }

    private static void lastsFirstThirst() {
        of(16, "Returns behind how many days it has thirst for the first time (1: on the day that is now).");
        int[][] rows = {{0, 1}, {1, 1}, {2, 1}, {3, 2}, {5, 2}, {6, 3}, {10, 4}};
        for (int[] row : rows) {
            RoofWater x = oneHouse(1, 10, 1, 0, row[0]);
            long before = x.digest();
            due("with " + row[0], row[1], () -> x.lasts(0));
            due("digest", before, x::digest);
            x.pass(1);
            due("with " + row[0] + ", a day later", Math.max(1, row[1] - 1), () -> x.lasts(0));
        }
        RoofWater y = oneHouse(1, 10, 0, 0, 0);
        y.build(1, 10, 1, 0);
        due("nobody, though others are thirsty", -1, () -> y.lasts(0));
        y.pass(3);
        y.cart(1, 7);
        due("thirst of days before", 3, () -> y.lasts(1));
    }

    private static void lastsAtMost200() {
        of(16, "At most 200; -1 if not by then (nothing is changed).");
        int[][] rows = {{594, 199}, {596, 199}, {597, 200}, {599, 200}, {600, -1}, {603, -1}};
        for (int[] row : rows) {
            RoofWater x = oneHouse(1, 900, 1, 0, row[0]);
            long before = x.digest();
            due("with " + row[0], row[1], () -> x.lasts(0));
            due("digest", before, x::digest);
        }
        RoofWater y = oneHouse(1, 900, 1, 0, 600);
        y.pass(1);
        due("a day later", 200, () -> y.lasts(0));
    }

    private static void lastsNoSuchHouse() {
        of(16, "Throws IndexOutOfBoundsException if there is no such house");
        RoofWater x = fullVillage();
        takesOnly(x, 0, 9, INDEX, x::lasts);
        RoofWater y = withHouses(1, 10);
        takesOnly(y, 0, 0, INDEX, y::lasts);
    }

    private static void needsLeast() {
        of(17, "Returns the least of the numbers 10, 20, 30 to 900 that its cistern has to hold, in the place of what "
            + "it holds, so that this house has no thirst in so many days from now on.");
        RoofWater x = withHouses(1, 900);
        due("nobody", 10, () -> x.needs(0, 60));
        x.cart(0, 500);
        x.cart(0, 400);
        x.setPeople(0, 1);
        due("9 of 10", 10, () -> x.needs(0, 3));
        due("12 of 20", 20, () -> x.needs(0, 4));
        due("18 of 20", 20, () -> x.needs(0, 6));
        due("21 of 30", 30, () -> x.needs(0, 7));
        x.setPeople(0, 5);
        due("30 of 30", 30, () -> x.needs(0, 2));
        due("900 of 900", 900, () -> x.needs(0, 60));
        RoofWater y = new RoofWater();
        // A small one spares the garden more of what overflows: 20 and 30 do, 10 and 40 to 70 don't.
        y.setWeather(0, 4, 0);
        y.build(14, 180, 1, 19);
        y.build(1, 80, 1, 15);
        y.chain(0, 1);
        y.lay(0, 1, 18);
        due("though larger ones won't do", 20, () -> y.needs(0, 7));
    }

    private static void needsMost() {
        of(17, "-1 if there is no such number (nothing is changed).");
        RoofWater x = oneHouse(1, 900, 9, 0, 900);
        long before = x.digest();
        due("891 of 900", 900, () -> x.needs(0, 33));
        due("918 of 900", -1, () -> x.needs(0, 34));
        due("digest", before, x::digest);
        RoofWater y = oneHouse(1, 10, 1, 0, 2);
        due("too little water at once", -1, () -> y.needs(0, 1));
        RoofWater z = new RoofWater();
        z.setWeather(0, 20, 0);
        z.build(30, 10, 9, 0);
        due("27 of 600 that come", 30, () -> z.needs(0, 1));
        due("594 of 600 that come", 600, () -> z.needs(0, 22));
        due("621 of 600 that come", -1, () -> z.needs(0, 23));
        due("it holds what it did", 10, () -> z.house(0, 1));
    }

    private static void needsWaterAtMost() {
        of(17, "With the water that is in it, but at most what it would hold.");
        RoofWater x = oneHouse(1, 100, 1, 0, 100);
        due("9 of 100 that would be 10", 10, () -> x.needs(0, 3));
        due("12 of 100 that would be 20", 20, () -> x.needs(0, 4));
        due("99 of 100", 100, () -> x.needs(0, 33));
        due("102 of 100", -1, () -> x.needs(0, 34));
        RoofWater y = oneHouse(1, 15, 1, 0, 15);
        due("15 of 15 that it may hold", 20, () -> y.needs(0, 5));
        due("18 of 15", -1, () -> y.needs(0, 6));
        RoofWater z = oneHouse(1, 100, 1, 0, 100);
        z.build(1, 100, 0, 0);
        z.chain(0, 1);
        z.lay(0, 1, 50);
        // What it would not hold does not overflow: of 10, 3 are drunk, and 6 go to the empty house 1; of 20, 14 do.
        due("it does not come to the next house", 20, () -> z.needs(0, 2));
    }

    private static void needsAllElseAsItIs() {
        of(17, "All else as it is.");
        RoofWater x = oneHouse(1, 100, 1, 0, 0);
        x.build(1, 100, 9, 0);
        x.pass(2);
        x.cart(0, 30);
        due("thirst of before and of others", 30, () -> x.needs(0, 10));
        RoofWater y = oneHouse(1, 100, 9, 0, 0);
        y.build(1, 10, 0, 0);
        due("a larger one for the other is not tried", -1, () -> y.needs(0, 1));
        due("the other", 10, () -> y.needs(1, 60));
        RoofWater z = oneHouse(1, 100, 1, 0, 90);
        z.build(1, 100, 0, 0);
        z.lay(0, 1, 50);
        z.turn(0, false);
        due("a closed valve", 90, () -> z.needs(0, 30));
    }

    private static void needsNoSuchHouse() {
        of(17, "Throws IndexOutOfBoundsException if there is no such house");
        RoofWater x = fullVillage();
        takesOnly(x, 0, 9, INDEX, n -> x.needs(n, 60));
        RoofWater y = withHouses(1, 10);
        takesOnly(y, 0, 0, INDEX, n -> y.needs(n, 1));
    }

    private static void needsDays() {
        of(17, "Throws IllegalArgumentException if days is not 1 to 60");
        RoofWater x = fullVillage();
        takesOnly(x, 1, 60, ARGUMENT, n -> x.needs(0, n));
    }

    /** Both gutters are full of leaves, and it rains on the day behind the next one. */
    private static RoofWater clogged(int roof, int otherRoof) {
        RoofWater x = new RoofWater();
        for (int day = 0; day < 4; day++) {
            x.setWeather(day, 0, 3);
        }
        x.setWeather(5, 1, 0);
        x.build(roof, 100, 1, 0);
        x.build(otherRoof, 100, 1, 0);
        x.pass(4);
        return x;
    }

    private static void dirtyLeastThirst() {
        of(18, "So that there is the least thirst in so many days; of several the one with the smallest number.");
        due("both alike", 0, () -> clogged(10, 10).dirty(60));
        due("both alike so far", 0, () -> clogged(10, 11).dirty(4));
        due("the second one by 1", 1, () -> clogged(10, 11).dirty(5));
        due("the first one by 1", 0, () -> clogged(11, 10).dirty(5));
        RoofWater x = clogged(3, 3);
        x.clean(0);
        due("the one that is not clean", 1, () -> x.dirty(2));
        RoofWater y = clogged(10, 11);
        long before = y.digest();
        y.dirty(60);
        due("nothing is changed", before, y::digest);
    }

    private static void dirtyNone() {
        of(18, "But none, if there is not less than without .. -1 if none.");
        due("no houses", -1, () -> new RoofWater().dirty(60));
        due("no rain so far", -1, () -> clogged(10, 11).dirty(1));
        RoofWater x = clogged(10, 11);
        x.clean(0);
        x.clean(1);
        due("all clean", -1, () -> x.dirty(60));
        RoofWater y = clogged(10, 11);
        y.setPeople(0, 0);
        y.setPeople(1, 0);
        due("nobody", -1, () -> y.dirty(60));
        RoofWater z = oneHouse(1, 900, 1, 0, 180);
        z.setWeather(0, 1, 3);
        due("none is thirsty by then", -1, () -> z.dirty(60));
    }

    private static void dirtyDays() {
        of(18, "Throws IllegalArgumentException if days is not 1 to 60");
        RoofWater x = fullVillage();
        takesOnly(x, 1, 60, ARGUMENT, x::dirty);
        RoofWater y = new RoofWater();
        takesOnly(y, 1, 60, ARGUMENT, y::dirty);
    }

    /** Water in the first, people in the second, pipes between them, all closed. */
    private static RoofWater closedPipes(int... lets) {
        RoofWater x = withHouses(2, 100);
        x.setPeople(1, 3);
        x.cart(0, 100);
        for (int i = 0; i < lets.length; i++) {
            x.lay(i % 2, 1 - i % 2, lets[i]);
            x.turn(i, false);
        }
        return x;
    }

    private static void adviseLeastThirst() {
        of(19, "So that there is the least thirst in so many days; of several the one with the smallest number.");
        due("all alike", 0, () -> closedPipes(9, 9, 9).advise(2));
        due("the last by 1", 2, () -> closedPipes(7, 7, 8).advise(2));
        due("alike where both are enough", 1, () -> closedPipes(8, 9, 10).advise(2));
        RoofWater x = closedPipes(5, 5, 6);
        long before = x.digest();
        x.advise(60);
        due("nothing is changed", before, x::digest);
        of(19, "Opened, if it is not open, otherwise closed.");
        x.turn(1, true);
        x.setPeople(0, 9);
        x.setPeople(1, 0);
        // House 0 drinks 27 a day: closed, it has 19 on the fourth day, and otherwise 9.
        due("closed", 1, () -> x.advise(4));
        due("it is still open", 1, () -> x.pipe(1, 3));
    }

    private static void adviseNone() {
        of(19, "But none, if there is not less than without .. -1 if none.");
        due("no pipes", -1, () -> withHouses(2, 10).advise(60));
        due("no houses", -1, () -> new RoofWater().advise(60));
        due("too late for today", -1, () -> closedPipes(50).advise(1));
        due("in time for tomorrow", 0, () -> closedPipes(50).advise(2));
        RoofWater x = closedPipes(50);
        x.setPeople(1, 0);
        due("nobody", -1, () -> x.advise(60));
        RoofWater y = closedPipes(50);
        y.turn(0, true);
        due("closing is worse", -1, () -> y.advise(60));
    }

    private static void adviseDays() {
        of(19, "Throws IllegalArgumentException if days is not 1 to 60");
        RoofWater x = fullVillage();
        takesOnly(x, 1, 60, ARGUMENT, x::advise);
        RoofWater y = new RoofWater();
        takesOnly(y, 1, 60, ARGUMENT, y::advise);
    }

    private static void droughtRoundTheTable() {
        of(20, "The longest row of days of the table without rain, one behind the other, round the table.");
        for (int wet = 0; wet < 28; wet++) {
            RoofWater x = new RoofWater();
            x.setWeather(wet, 1, 0);
            due("rain on day " + wet + " alone", 27, x::drought);
        }
        for (int from = 0; from < 28; from++) {
            for (int length = 0; length < 4; length++) {
                RoofWater x = new RoofWater();
                for (int i = length; i < 28; i++) {
                    x.setWeather((from + i) % 28, 20, 3);
                }
                due(length + " dry days from " + from, length, x::drought);
            }
        }
        RoofWater y = new RoofWater();
        y.setWeather(9, 1, 0);
        y.setWeather(18, 1, 0);
        y.setWeather(24, 1, 0);
        // Nine from 0 on and three up to 27; eight from 10 on; five from 19 on.
        due("the first and the last days are one row", 12, y::drought);
        y.setWeather(27, 1, 0);
        due("the first days alone", 9, y::drought);
    }

    private static void droughtWithoutRain() {
        of(20, "28 if there is none with rain.");
        RoofWater x = new RoofWater();
        due("at first", 28, x::drought);
        for (int day = 0; day < 28; day++) {
            x.setWeather(day, 0, 3);
        }
        due("leaves only", 28, x::drought);
        x.setWeather(13, 1, 0);
        due("one with rain", 27, x::drought);
        x.setWeather(13, 0, 0);
        due("none again", 28, x::drought);
    }

    private static void fullOfAll() {
        of(21, "Returns all water, divided by what all cisterns hold.");
        RoofWater x = withHouses(10, 900);
        dueDouble("all empty", 0.0, x.full());
        x.cart(9, 1);
        dueDouble("one of 9000", 1.0 / 9000.0, x.full());
        for (int i = 0; i < 10; i++) {
            x.cart(i, 500);
            x.cart(i, 500);
        }
        dueDouble("all full", 1.0, x.full());
        RoofWater y = oneHouse(1, 10, 0, 0, 10);
        y.build(1, 20, 0, 0);
        dueDouble("a third", 10.0 / 30.0, y.full());
    }

    private static void fullWithoutHouses() {
        of(21, "0 without houses.");
        RoofWater x = new RoofWater();
        dueDouble("at first", 0.0, x.full());
        x.pass(100);
        dueDouble("later", 0.0, x.full());
    }

    /** The low 64 bits of what whole numbers without a bound give. */
    private static long digestOf(int... numbers) {
        BigInteger d = BigInteger.valueOf(673);
        for (int x : numbers) {
            d = d.multiply(BigInteger.valueOf(31)).add(BigInteger.valueOf(x));
        }
        return d.longValue();
    }

    private static void digestWraps() {
        of(22, "A number d starts with 673 .. d becomes d * 31 + x, which wraps around as a 64-bit integer.");
        due("without houses", digestOf(new int[39]), () -> new RoofWater().digest());
        RoofWater x = new RoofWater();
        x.pass(100);
        int[] numbers = new int[39];
        numbers[0] = 100;
        due("on the day 100", digestOf(numbers), x::digest);
        x.setWeather(0, 20, 3);
        x.setWeather(27, 1, 2);
        numbers[11] = 203;
        numbers[38] = 12;
        due("with weather", digestOf(numbers), x::digest);
    }

    private static void digestOrder() {
        of(22, "What count() tells, in its order; for each day of the table 10 * rain and leaves; for each house what "
            + "house() tells, in its order; for each pipe what pipe() tells, in its order.");
        RoofWater x = new RoofWater();
        x.build(10, 100, 1, 0);
        x.build(20, 50, 0, 3);
        x.build(30, 25, 0, 0);
        x.lay(2, 0, 5);
        x.lay(0, 1, 9);
        x.chain(0, 2);
        x.cart(0, 63);
        x.cart(2, 26);
        x.pass(1);
        // 60 and 25: of 100 and 25, (25 * 100 - 60 * 25) / 125 is 8, but 5; of 65 and 0, 65 * 50 / 150 is 21, but 9.
        int[] numbers = new int[11 + 28 + 30 + 10 + 3];
        int[] counts = {1, 3, 2, 85, 0, 0, 1, 3, 0, 89, 2};
        int[] rest = {
            10, 100, 56, 1, 0, 0, 2, 0, 0, 0, 20, 50, 9, 0, 3, 0, -1, 0, 0, 0, 30, 25, 20, 0, 0, 0, -1, 0, 0, 0,
            2, 0, 5, 1, 5, 0, 1, 9, 1, 9, -9, 5, 0,
        };
        System.arraycopy(counts, 0, numbers, 0, counts.length);
        System.arraycopy(rest, 0, numbers, 39, rest.length);
        due("of three houses", digestOf(numbers), x::digest);
        due("again", digestOf(numbers), x::digest);
    }

    private static void digestEachOther() {
        of(22, "What owes() tells of each house and each other one with a greater number, house by house.");
        RoofWater x = oneHouse(4, 40, 0, 0, 0);
        int[] one = new int[39 + 10];
        one[1] = 1;
        one[39] = 4;
        one[40] = 40;
        one[45] = -1;
        due("one house has no other", digestOf(one), x::digest);
        x.build(5, 50, 0, 0);
        int[] two = new int[39 + 20 + 1];
        two[1] = 2;
        System.arraycopy(one, 39, two, 39, 10);
        two[49] = 5;
        two[50] = 50;
        two[55] = -1;
        due("two houses have one number", digestOf(two), x::digest);
    }
}
