/** Promises 1 to 22 by runs worked out by hand: ordinary inputs, edges, wrong inputs. */
public final class PromiseTest {
    private interface Call {
        double answer();
    }

    private static final Class<?> INDEX = IndexOutOfBoundsException.class;
    private static final Class<?> ARGUMENT = IllegalArgumentException.class;
    private static final Class<?> STATE = IllegalStateException.class;

    private static int promise;
    private static int wrong;

    public static void main(String[] args) {
        newObject();
        setWeather();
        build();
        chain();
        lay();
        turn();
        clean();
        cart();
        setPeople();
        house();
        pipe();
        owes();
        pass();
        passDetails();
        count();
        foresee();
        lasts();
        needs();
        dirty();
        advise();
        drought();
        full();
        digest();
        aheadChangesNothing();
        fullVillage();
        System.out.println(wrong == 0 ? "all promises hold" : wrong + " answers are not as due");
        System.exit(wrong == 0 ? 0 : 1);
    }

    private static void due(String call, double want, Call c) {
        try {
            double got = c.answer();
            if (got != want) {
                tell(call + " answered " + got + ", due is " + want);
            }
        } catch (RuntimeException e) {
            tell(call + " threw " + e + ", due is " + want);
        }
    }

    /** The call throws just this class, and the object is as before. */
    private static void refuses(RoofWater x, String call, Class<?> want, Call c) {
        long before = x.digest();
        try {
            tell(call + " answered " + c.answer() + ", due is " + want);
        } catch (RuntimeException e) {
            if (e.getClass() != want) {
                tell(call + " threw " + e + ", due is " + want);
            }
        }
        if (x.digest() != before) {
            tell(call + " threw and changed the object");
        }
    }

    private static void tell(String text) {
        wrong++;
        System.out.println("promise " + promise + ": " + text);
    }

    private static void newObject() {
        promise = 1;
        RoofWater x = new RoofWater();
        for (int i = 0; i <= 10; i++) {
            int what = i;
            due("count " + what, 0, () -> x.count(what));
        }
        for (int i = 0; i < 28; i++) {
            int day = i;
            due("setWeather " + day, 0, () -> x.setWeather(day, 0, 0));
        }
        refuses(x, "house", INDEX, () -> x.house(0, 0));
        refuses(x, "pipe", INDEX, () -> x.pipe(0, 0));
        due("pass without houses", 0, () -> x.pass(100));
        due("day", 100, () -> x.count(0));
        RoofWater y = new RoofWater();
        due("another object's day", 0, () -> y.count(0));
    }

    private static void setWeather() {
        promise = 2;
        RoofWater x = new RoofWater();
        due("first", 0, () -> x.setWeather(0, 20, 3));
        due("again", 203, () -> x.setWeather(0, 0, 0));
        due("again", 0, () -> x.setWeather(0, 1, 2));
        due("last day", 0, () -> x.setWeather(27, 5, 1));
        due("last day again", 51, () -> x.setWeather(27, 4, 0));
        refuses(x, "day -1", INDEX, () -> x.setWeather(-1, 0, 0));
        refuses(x, "day 28", INDEX, () -> x.setWeather(28, 0, 0));
        refuses(x, "day and rain", INDEX, () -> x.setWeather(28, 21, 4));
        refuses(x, "rain -1", ARGUMENT, () -> x.setWeather(0, -1, 0));
        refuses(x, "rain 21", ARGUMENT, () -> x.setWeather(0, 21, 0));
        refuses(x, "leaves -1", ARGUMENT, () -> x.setWeather(0, 0, -1));
        refuses(x, "leaves 4", ARGUMENT, () -> x.setWeather(0, 0, 4));
        x.setWeather(0, 3, 0);
        x.build(1, 900, 0, 0);
        x.pass(28);
        due("water of days 0 and 27", 7, () -> x.house(0, 2));
        x.pass(1);
        due("water of day 28", 10, () -> x.house(0, 2));
    }

    private static void build() {
        promise = 3;
        RoofWater x = new RoofWater();
        refuses(x, "roof 0", ARGUMENT, () -> x.build(0, 10, 0, 0));
        refuses(x, "roof 31", ARGUMENT, () -> x.build(31, 10, 0, 0));
        refuses(x, "holds 9", ARGUMENT, () -> x.build(1, 9, 0, 0));
        refuses(x, "holds 901", ARGUMENT, () -> x.build(1, 901, 0, 0));
        refuses(x, "people -1", ARGUMENT, () -> x.build(1, 10, -1, 0));
        refuses(x, "people 10", ARGUMENT, () -> x.build(1, 10, 10, 0));
        refuses(x, "garden -1", ARGUMENT, () -> x.build(1, 10, 0, -1));
        refuses(x, "garden 21", ARGUMENT, () -> x.build(1, 10, 0, 21));
        due("least", 0, () -> x.build(1, 10, 0, 0));
        due("most", 1, () -> x.build(30, 900, 9, 20));
        int[] want = {30, 900, 0, 9, 20, 0, -1, 0, 0, 0};
        for (int i = 0; i < want.length; i++) {
            int what = i;
            due("new house's " + what, want[what], () -> x.house(1, what));
        }
        for (int i = 2; i < 10; i++) {
            due("house " + i, i, () -> x.build(5, 50, 1, 1));
        }
        refuses(x, "the eleventh", STATE, () -> x.build(5, 50, 1, 1));
        refuses(x, "the eleventh and roof 0", ARGUMENT, () -> x.build(0, 50, 1, 1));
        refuses(x, "the eleventh and garden 21", ARGUMENT, () -> x.build(1, 50, 1, 21));
        due("houses", 10, () -> x.count(1));
    }

    private static RoofWater withHouses(int houses, int holds) {
        RoofWater x = new RoofWater();
        for (int i = 0; i < houses; i++) {
            x.build(10, holds, 0, 0);
        }
        return x;
    }

    private static void chain() {
        promise = 4;
        RoofWater x = withHouses(4, 50);
        due("0 to 1", 1, () -> x.chain(0, 1));
        due("1 to 2", 1, () -> x.chain(1, 2));
        due("2 to 3", 1, () -> x.chain(2, 3));
        due("0 to 1 again", 3, () -> x.chain(0, 1));
        due("next of 0", 1, () -> x.house(0, 6));
        refuses(x, "3 to 0", STATE, () -> x.chain(3, 0));
        refuses(x, "3 to 1", STATE, () -> x.chain(3, 1));
        refuses(x, "1 to 0", STATE, () -> x.chain(1, 0));
        refuses(x, "3 to 3", ARGUMENT, () -> x.chain(3, 3));
        refuses(x, "3 to 4", INDEX, () -> x.chain(3, 4));
        refuses(x, "4 to 4", INDEX, () -> x.chain(4, 4));
        refuses(x, "-1 to -1", INDEX, () -> x.chain(-1, -1));
        refuses(x, "0 to -2", INDEX, () -> x.chain(0, -2));
        due("0 to none", 0, () -> x.chain(0, -1));
        due("next of 0", -1, () -> x.house(0, 6));
        due("3 to 0", 1, () -> x.chain(3, 0));
        refuses(x, "0 to 1", STATE, () -> x.chain(0, 1));
        due("1 to 3", 2, () -> x.chain(1, 3));
        due("2 to 1", 3, () -> x.chain(2, 1));
        RoofWater y = withHouses(10, 10);
        for (int i = 8; i >= 0; i--) {
            int from = i;
            due("long chain from " + i, 9 - i, () -> y.chain(from, from + 1));
        }
        refuses(y, "9 to 0", STATE, () -> y.chain(9, 0));
        due("cart down all", 400, () -> y.cart(0, 500));
    }

    private static void lay() {
        promise = 5;
        RoofWater x = withHouses(3, 50);
        due("0 1", 0, () -> x.lay(0, 1, 1));
        due("2 0", 1, () -> x.lay(2, 0, 50));
        due("2 0 again", 2, () -> x.lay(2, 0, 50));
        int[] want = {2, 0, 50, 1, 0};
        for (int i = 0; i < want.length; i++) {
            int what = i;
            due("new pipe's " + what, want[what], () -> x.pipe(1, what));
        }
        refuses(x, "a -1", INDEX, () -> x.lay(-1, 0, 1));
        refuses(x, "b -1", INDEX, () -> x.lay(0, -1, 1));
        refuses(x, "a 3", INDEX, () -> x.lay(3, 0, 1));
        refuses(x, "b 3 and lets 0", INDEX, () -> x.lay(0, 3, 0));
        refuses(x, "both 3", INDEX, () -> x.lay(3, 3, 1));
        refuses(x, "same", ARGUMENT, () -> x.lay(1, 1, 1));
        refuses(x, "lets 0", ARGUMENT, () -> x.lay(0, 1, 0));
        refuses(x, "lets 51", ARGUMENT, () -> x.lay(0, 1, 51));
        for (int i = 3; i < 12; i++) {
            due("pipe " + i, i, () -> x.lay(1, 2, 7));
        }
        refuses(x, "the thirteenth", STATE, () -> x.lay(0, 1, 1));
        refuses(x, "the thirteenth, same", ARGUMENT, () -> x.lay(0, 0, 1));
        refuses(x, "the thirteenth, lets 51", ARGUMENT, () -> x.lay(0, 1, 51));
        refuses(x, "the thirteenth, no house", INDEX, () -> x.lay(0, 5, 1));
        due("pipes", 12, () -> x.count(2));
    }

    private static void turn() {
        promise = 6;
        RoofWater x = withHouses(2, 100);
        refuses(x, "no pipe", INDEX, () -> x.turn(0, true) ? 1 : 0);
        x.lay(0, 1, 50);
        x.cart(0, 100);
        due("close", 1, () -> x.turn(0, false) ? 1 : 0);
        due("close again", 0, () -> x.turn(0, false) ? 1 : 0);
        due("valve", 0, () -> x.pipe(0, 3));
        x.pass(1);
        due("nothing flows", 100, () -> x.house(0, 2));
        due("open", 0, () -> x.turn(0, true) ? 1 : 0);
        due("open again", 1, () -> x.turn(0, true) ? 1 : 0);
        due("valve", 1, () -> x.pipe(0, 3));
        x.pass(1);
        due("it flows", 50, () -> x.house(0, 2));
        refuses(x, "pipe 1", INDEX, () -> x.turn(1, false) ? 1 : 0);
        refuses(x, "pipe -1", INDEX, () -> x.turn(-1, false) ? 1 : 0);
    }

    private static void clean() {
        promise = 7;
        RoofWater x = withHouses(2, 100);
        for (int day = 0; day < 5; day++) {
            x.setWeather(day, 0, 3);
        }
        due("never clogged", 0, () -> x.clean(0));
        x.pass(2);
        due("two days", 6, () -> x.clean(0));
        due("at once again", 0, () -> x.clean(0));
        x.pass(2);
        due("other house, at most", 10, () -> x.house(1, 5));
        due("two days more", 6, () -> x.clean(0));
        due("other house", 10, () -> x.clean(1));
        due("fact", 0, () -> x.house(1, 5));
        refuses(x, "house 2", INDEX, () -> x.clean(2));
        refuses(x, "house -1", INDEX, () -> x.clean(-1));
    }

    private static void cart() {
        promise = 8;
        RoofWater x = new RoofWater();
        x.build(10, 100, 0, 0);
        x.build(10, 50, 0, 0);
        x.chain(0, 1);
        due("down the chain", 0, () -> x.cart(0, 120));
        due("water 0", 100, () -> x.house(0, 2));
        due("water 1", 20, () -> x.house(1, 2));
        due("all full", 470, () -> x.cart(0, 500));
        due("1 to a full one", 1, () -> x.cart(1, 1));
        due("lost", 471, () -> x.count(6));
        due("carted", 621, () -> x.count(9));
        due("from roofs", 0, () -> x.count(5));
        due("all water", 150, () -> x.count(3));
        refuses(x, "water 0", ARGUMENT, () -> x.cart(0, 0));
        refuses(x, "water 501", ARGUMENT, () -> x.cart(0, 501));
        refuses(x, "water -1", ARGUMENT, () -> x.cart(0, -1));
        refuses(x, "house 2, water 0", INDEX, () -> x.cart(2, 0));
        refuses(x, "house -1", INDEX, () -> x.cart(-1, 1));
    }

    private static void setPeople() {
        promise = 9;
        RoofWater x = new RoofWater();
        x.build(1, 100, 4, 0);
        due("to 9", 4, () -> x.setPeople(0, 9));
        due("to 0", 9, () -> x.setPeople(0, 0));
        due("no thirst", 0, () -> x.pass(3));
        due("to 2", 0, () -> x.setPeople(0, 2));
        due("fact", 2, () -> x.house(0, 3));
        due("thirst", 18, () -> x.pass(3));
        refuses(x, "people -1", ARGUMENT, () -> x.setPeople(0, -1));
        refuses(x, "people 10", ARGUMENT, () -> x.setPeople(0, 10));
        refuses(x, "house 1, people 10", INDEX, () -> x.setPeople(1, 10));
        refuses(x, "house -1", INDEX, () -> x.setPeople(-1, 1));
    }

    private static void dueHouse(RoofWater x, int house, int[] want) {
        for (int i = 0; i < want.length; i++) {
            int what = i;
            due("house(" + house + ", " + what + ")", want[what], () -> x.house(house, what));
        }
    }

    private static void duePipe(RoofWater x, int pipe, int[] want) {
        for (int i = 0; i < want.length; i++) {
            int what = i;
            due("pipe(" + pipe + ", " + what + ")", want[what], () -> x.pipe(pipe, what));
        }
    }

    private static void dueCounts(RoofWater x, int[] want) {
        for (int i = 0; i < want.length; i++) {
            int what = i;
            due("count(" + what + ")", want[what], () -> x.count(what));
        }
    }

    /** Two houses and a pipe; its days are worked out in the comments of pass(). */
    private static RoofWater pair() {
        RoofWater x = new RoofWater();
        x.setWeather(0, 12, 1);
        x.setWeather(2, 3, 0);
        x.build(10, 100, 2, 8);
        x.build(5, 50, 3, 20);
        x.lay(0, 1, 5);
        return x;
    }

    private static void house() {
        promise = 10;
        RoofWater x = pair();
        x.pass(2);
        dueHouse(x, 0, new int[] {10, 100, 62, 2, 8, 1, -1, 0, 16, 0});
        dueHouse(x, 1, new int[] {5, 50, 26, 3, 20, 1, -1, 0, 16, 0});
        x.chain(1, 0);
        x.turn(0, false);
        x.pass(8);
        // Day 2 leaves 30, and 5 go to the garden; then 16, 7, 0 (2 short), and 9 short on days 6 to 9.
        dueHouse(x, 1, new int[] {5, 50, 0, 3, 20, 1, 0, 38, 21, 5});
        refuses(x, "what -1", INDEX, () -> x.house(0, -1));
        refuses(x, "what 10", INDEX, () -> x.house(0, 10));
        refuses(x, "house 2", INDEX, () -> x.house(2, 0));
        refuses(x, "house -1", INDEX, () -> x.house(-1, 0));
    }

    private static void pipe() {
        promise = 11;
        RoofWater x = withHouses(2, 100);
        x.lay(1, 0, 30);
        x.cart(0, 80);
        x.pass(1);
        duePipe(x, 0, new int[] {1, 0, 30, 1, 30});
        x.pass(1);
        duePipe(x, 0, new int[] {1, 0, 30, 1, 40});
        x.cart(1, 11);
        x.pass(1);
        duePipe(x, 0, new int[] {1, 0, 30, 1, 45});
        x.turn(0, false);
        duePipe(x, 0, new int[] {1, 0, 30, 0, 45});
        refuses(x, "what -1", INDEX, () -> x.pipe(0, -1));
        refuses(x, "what 5", INDEX, () -> x.pipe(0, 5));
        refuses(x, "pipe 1", INDEX, () -> x.pipe(1, 0));
        refuses(x, "pipe -1", INDEX, () -> x.pipe(-1, 0));
    }

    private static void owes() {
        promise = 12;
        RoofWater x = withHouses(3, 100);
        x.lay(0, 1, 10);
        x.lay(1, 0, 7);
        x.lay(1, 2, 2);
        x.cart(0, 60);
        // 10, then of 50 and 10 7, then of 17 and 0 2.
        x.pass(1);
        due("owes(1, 0)", 17, () -> x.owes(1, 0));
        due("owes(0, 1)", -17, () -> x.owes(0, 1));
        due("owes(2, 1)", 2, () -> x.owes(2, 1));
        due("owes(1, 2)", -2, () -> x.owes(1, 2));
        due("owes(0, 2)", 0, () -> x.owes(0, 2));
        due("owes(1, 1)", 0, () -> x.owes(1, 1));
        x.turn(0, false);
        x.turn(2, false);
        x.cart(1, 80);
        // 95 and 43: 26 by half, but 7.
        x.pass(1);
        due("owes(1, 0) less what came back", 10, () -> x.owes(1, 0));
        refuses(x, "a 3", INDEX, () -> x.owes(3, 0));
        refuses(x, "b 3", INDEX, () -> x.owes(0, 3));
        refuses(x, "a -1", INDEX, () -> x.owes(-1, 0));
        refuses(x, "b -1", INDEX, () -> x.owes(0, -1));
    }

    private static void pass() {
        promise = 13;
        RoofWater x = pair();
        // Day 0: 120 and 60 come, 20 and 10 are lost; 94, 41; gardens 8, 16: 86, 25; the pipe would
        // let (86 * 50 - 25 * 100) / 150 = 12, but 5.
        due("day 0", 0, () -> x.pass(1));
        due("water 0", 81, () -> x.house(0, 2));
        due("water 1", 30, () -> x.house(1, 2));
        // Day 1: 75, 21; only the first garden: 67; 5 again.
        due("day 1", 0, () -> x.pass(1));
        due("water 0", 62, () -> x.house(0, 2));
        due("water 1", 26, () -> x.house(1, 2));
        // Day 2: gutters clogged by 1: 27 and 13 come: 89, 39; 83, 30; gardens 8, 5: 75, 25; 5.
        due("day 2", 0, () -> x.pass(1));
        due("water 0", 70, () -> x.house(0, 2));
        due("water 1", 30, () -> x.house(1, 2));
        dueCounts(x, new int[] {3, 2, 1, 100, 0, 220, 30, 45, 45, 0, 1});
        refuses(x, "0 days", ARGUMENT, () -> x.pass(0));
        refuses(x, "-1 days", ARGUMENT, () -> x.pass(-1));
        refuses(x, "101 days", ARGUMENT, () -> x.pass(101));
        RoofWater y = new RoofWater();
        y.build(1, 10, 3, 0);
        y.cart(0, 5);
        due("4 are missing", 4, () -> y.pass(1));
        due("9 a day", 900, () -> y.pass(100));
        due("all thirst", 904, () -> y.house(0, 7));
        due("its days", 101, () -> y.house(0, 9));
    }

    private static void passDetails() {
        RoofWater x = new RoofWater();
        x.build(1, 11, 0, 20);
        x.cart(0, 7);
        x.pass(1);
        due("garden stops before half", 6, () -> x.house(0, 2));
        x.pass(1);
        due("garden gets nothing", 6, () -> x.house(0, 2));
        RoofWater y = new RoofWater();
        y.setWeather(0, 1, 0);
        y.build(20, 10, 0, 0);
        y.build(30, 40, 0, 0);
        y.build(1, 10, 0, 0);
        y.chain(0, 1);
        y.chain(1, 2);
        // 20: 10 and 10; then 30 fill it; then 1.
        y.pass(1);
        due("end of the chain", 1, () -> y.house(2, 2));
        due("nothing is lost", 0, () -> y.count(6));
        RoofWater z = withHouses(2, 100);
        z.build(1, 200, 0, 0);
        z.lay(0, 1, 50);
        z.lay(2, 1, 50);
        z.cart(0, 3);
        // 3 / 2 is 1; then 1 of 100 against 0 of 200 is 100 / 300.
        z.pass(1);
        due("cut towards 0", 2, () -> z.house(0, 2));
        due("cut towards 0 the other way", 1, () -> z.house(1, 2));
        z.cart(1, 89);
        // 2 and 90: 44; then 46 of 100 and 0 of 200: 9200 / 300 is 30.
        z.pass(1);
        due("from the second", 46, () -> z.house(0, 2));
        due("between unlike ones", 16, () -> z.house(1, 2));
        due("the larger one", 30, () -> z.house(2, 2));
    }

    private static void count() {
        promise = 14;
        RoofWater x = pair();
        x.pass(2);
        x.cart(0, 40);
        x.turn(0, false);
        x.setPeople(1, 9);
        x.pass(1);
        // 62 and 38 fill it, 2 and 27 are lost; 39: 27 are drunk; gardens 8 and 0.
        dueCounts(x, new int[] {3, 2, 1, 98, 0, 220, 59, 63, 40, 40, 0});
        x.pass(1);
        // 86 - 6, 8 to the garden; 12 - 27 is 15 short.
        dueCounts(x, new int[] {4, 2, 1, 72, 15, 220, 59, 81, 48, 40, 0});
        refuses(x, "what -1", INDEX, () -> x.count(-1));
        refuses(x, "what 11", INDEX, () -> x.count(11));
    }

    private static void foresee() {
        promise = 15;
        RoofWater x = pair();
        due("thirst", 0, () -> x.foresee(3, 0));
        due("water", 100, () -> x.foresee(3, 1));
        due("lost", 30, () -> x.foresee(3, 2));
        due("nothing has changed", 0, () -> x.count(0));
        x.pass(1);
        due("lost later", 0, () -> x.foresee(2, 2));
        due("water at 1", 111 - 15 - 8, () -> x.foresee(1, 1));
        RoofWater y = new RoofWater();
        y.build(1, 10, 3, 0);
        y.cart(0, 5);
        y.pass(1);
        due("thirst of 100 days", 900, () -> y.foresee(100, 0));
        RoofWater z = new RoofWater();
        z.setWeather(0, 5, 0);
        z.build(10, 10, 0, 0);
        z.build(10, 100, 0, 0);
        z.chain(0, 1);
        due("water down the chain", 100, () -> z.foresee(1, 1));
        due("not lost", 0, () -> z.foresee(1, 2));
        due("lost at its end", 90, () -> z.foresee(29, 2));
        refuses(x, "0 days, what 3", ARGUMENT, () -> x.foresee(0, 3));
        refuses(x, "101 days, what -1", ARGUMENT, () -> x.foresee(101, -1));
        refuses(x, "what 3", INDEX, () -> x.foresee(1, 3));
        refuses(x, "what -1", INDEX, () -> x.foresee(1, -1));
    }

    private static void lasts() {
        promise = 16;
        RoofWater x = new RoofWater();
        x.build(1, 100, 2, 0);
        due("dry now", 1, () -> x.lasts(0));
        x.cart(0, 50);
        due("8 days of 6, then thirst", 9, () -> x.lasts(0));
        x.setPeople(0, 0);
        due("nobody", -1, () -> x.lasts(0));
        RoofWater y = new RoofWater();
        y.build(1, 900, 1, 0);
        y.cart(0, 500);
        y.cart(0, 97);
        due("on day 200", 200, () -> y.lasts(0));
        y.cart(0, 2);
        due("1 short on day 200", 200, () -> y.lasts(0));
        y.cart(0, 1);
        due("on day 201", -1, () -> y.lasts(0));
        RoofWater z = new RoofWater();
        z.build(1, 10, 1, 0);
        z.pass(3);
        z.cart(0, 7);
        due("earlier thirst does not count", 3, () -> z.lasts(0));
        refuses(z, "house 1", INDEX, () -> z.lasts(1));
        refuses(z, "house -1", INDEX, () -> z.lasts(-1));
    }

    private static void needs() {
        promise = 17;
        RoofWater x = new RoofWater();
        x.build(1, 100, 2, 0);
        x.cart(0, 50);
        due("5 days of 6", 30, () -> x.needs(0, 5));
        due("6 days", 40, () -> x.needs(0, 6));
        due("8 days", 50, () -> x.needs(0, 8));
        due("9 days are too many", -1, () -> x.needs(0, 9));
        due("it holds what it did", 100, () -> x.house(0, 1));
        x.setPeople(0, 0);
        due("nobody", 10, () -> x.needs(0, 60));
        RoofWater y = new RoofWater();
        y.setWeather(1, 20, 0);
        y.build(30, 10, 5, 0);
        y.cart(0, 10);
        due("15 on the first day", -1, () -> y.needs(0, 1));
        y.pass(1);
        // 600 come on day 1: 15 a day for 40 days, that is 600, while 60 would take 900.
        due("20 days", 300, () -> y.needs(0, 20));
        due("27 days", 410, () -> y.needs(0, 27));
        due("28 days", 420, () -> y.needs(0, 28));
        RoofWater z = new RoofWater();
        z.build(1, 900, 9, 0);
        z.build(1, 900, 0, 0);
        z.lay(1, 0, 50);
        z.cart(0, 27);
        z.cart(1, 500);
        z.cart(1, 400);
        // It is given at most 50 on day 0; of 10 to 20 the first day is not met.
        due("from a neighbour", 30, () -> z.needs(0, 2));
        z.setPeople(1, 9);
        z.turn(0, false);
        due("of 900 27 a day", 900, () -> z.needs(1, 33));
        due("900 are not enough", -1, () -> z.needs(1, 34));
        RoofWater v = withHouses(2, 100);
        v.setPeople(0, 1);
        v.chain(0, 1);
        v.lay(0, 1, 50);
        v.cart(0, 100);
        // What a smaller one would not hold does not go down the chain: of 10, 3 are drunk and 6 flow
        // out; of 20, 3 and 14.
        due("water at most what it would hold", 20, () -> v.needs(0, 2));
        refuses(x, "house 1, 0 days", INDEX, () -> x.needs(1, 0));
        refuses(x, "house -1", INDEX, () -> x.needs(-1, 1));
        refuses(x, "0 days", ARGUMENT, () -> x.needs(0, 0));
        refuses(x, "61 days", ARGUMENT, () -> x.needs(0, 61));
    }

    private static void dirty() {
        promise = 18;
        RoofWater x = new RoofWater();
        for (int day = 0; day < 4; day++) {
            x.setWeather(day, 0, 3);
        }
        x.setWeather(5, 1, 0);
        due("no houses", -1, () -> x.dirty(1));
        x.build(10, 100, 1, 0);
        x.build(20, 100, 1, 0);
        x.pass(4);
        // Cleaned, they get 10 and 20 on day 5, and drink 3 a day.
        due("only day 4", -1, () -> x.dirty(1));
        due("alike, the smallest number", 0, () -> x.dirty(2));
        due("alike, the smallest number", 0, () -> x.dirty(4));
        due("10 do not last", 1, () -> x.dirty(5));
        due("still clogged", 10, () -> x.house(1, 5));
        x.setPeople(0, 0);
        x.setPeople(1, 0);
        due("no thirst", -1, () -> x.dirty(60));
        RoofWater y = new RoofWater();
        for (int day = 0; day < 4; day++) {
            y.setWeather(day, 0, 3);
        }
        y.setWeather(5, 1, 0);
        y.build(10, 100, 1, 0);
        y.build(11, 100, 1, 0);
        y.pass(4);
        due("11 last longer than 10", 1, () -> y.dirty(5));
        refuses(x, "0 days", ARGUMENT, () -> x.dirty(0));
        refuses(x, "61 days", ARGUMENT, () -> x.dirty(61));
    }

    private static void advise() {
        promise = 19;
        RoofWater x = withHouses(2, 100);
        due("no pipes", -1, () -> x.advise(1));
        x.setPeople(1, 3);
        x.cart(0, 100);
        x.lay(0, 1, 1);
        x.lay(0, 1, 20);
        x.lay(1, 0, 20);
        for (int i = 0; i < 3; i++) {
            x.turn(i, false);
        }
        due("too late for today", -1, () -> x.advise(1));
        due("the wider one", 1, () -> x.advise(2));
        due("it is still closed", 0, () -> x.pipe(1, 3));
        x.turn(1, true);
        due("none is better", -1, () -> x.advise(2));
        RoofWater y = withHouses(3, 100);
        y.setPeople(0, 3);
        y.cart(0, 20);
        y.lay(1, 2, 50);
        y.lay(0, 1, 50);
        due("closing one", 1, () -> y.advise(2));
        due("it is still open", 1, () -> y.pipe(1, 3));
        RoofWater z = withHouses(2, 100);
        z.setPeople(1, 3);
        z.cart(0, 100);
        for (int i = 0; i < 2; i++) {
            z.lay(0, 1, 20);
            z.turn(i, false);
        }
        due("alike, the smallest number", 0, () -> z.advise(2));
        refuses(y, "0 days", ARGUMENT, () -> y.advise(0));
        refuses(y, "61 days", ARGUMENT, () -> y.advise(61));
    }

    private static void drought() {
        promise = 20;
        RoofWater x = new RoofWater();
        due("no rain", 28, x::drought);
        x.setWeather(3, 0, 3);
        due("leaves only", 28, x::drought);
        x.setWeather(3, 1, 0);
        due("one day", 27, x::drought);
        x.setWeather(10, 1, 0);
        due("round the table", 20, x::drought);
        x.setWeather(27, 1, 0);
        due("inside", 16, x::drought);
        for (int day = 0; day < 28; day++) {
            x.setWeather(day, 2, 0);
        }
        due("rain on each day", 0, x::drought);
        x.setWeather(27, 0, 0);
        x.setWeather(0, 0, 0);
        due("the end and the start", 2, x::drought);
        x.pass(5);
        due("the day does not matter", 2, x::drought);
        x.setWeather(27, 1, 0);
        x.setWeather(1, 0, 0);
        due("the start alone", 2, x::drought);
        x.setWeather(26, 0, 0);
        x.setWeather(25, 0, 0);
        x.setWeather(24, 0, 0);
        due("near the end", 3, x::drought);
    }

    private static void full() {
        promise = 21;
        RoofWater x = new RoofWater();
        due("no houses", 0.0, x::full);
        x.build(1, 10, 0, 0);
        due("no water", 0.0, x::full);
        x.build(1, 20, 0, 0);
        x.cart(0, 10);
        due("a third", 10.0 / 30.0, x::full);
        x.cart(1, 20);
        due("all", 1.0, x::full);
    }

    private static long mix(long d, long x) {
        return d * 31 + x;
    }

    private static void digest() {
        promise = 22;
        long empty = 673;
        for (int i = 0; i < 39; i++) {
            empty = empty * 31;
        }
        dueLong("of a new object", empty, new RoofWater().digest());
        RoofWater x = pair();
        x.build(3, 30, 1, 0);
        x.lay(2, 0, 9);
        x.chain(1, 2);
        x.pass(17);
        long d = 673;
        for (int what = 0; what <= 10; what++) {
            d = mix(d, x.count(what));
        }
        for (int day = 0; day < 28; day++) {
            d = mix(d, day == 0 ? 121 : day == 2 ? 30 : 0);
        }
        for (int house = 0; house < 3; house++) {
            for (int what = 0; what <= 9; what++) {
                d = mix(d, x.house(house, what));
            }
        }
        for (int pipe = 0; pipe < 2; pipe++) {
            for (int what = 0; what <= 4; what++) {
                d = mix(d, x.pipe(pipe, what));
            }
        }
        d = mix(mix(mix(d, x.owes(0, 1)), x.owes(0, 2)), x.owes(1, 2));
        dueLong("of a village", d, x.digest());
        dueLong("again", d, x.digest());
    }

    private static void dueLong(String call, long want, long got) {
        if (got != want) {
            tell(call + " answered " + got + ", due is " + want);
        }
    }

    /** Every call with the most houses and pipes that there can be. */
    private static void fullVillage() {
        promise = 22;
        RoofWater x = withHouses(10, 100);
        for (int i = 0; i < 10; i++) {
            x.setPeople(i, 1);
        }
        for (int i = 8; i >= 0; i--) {
            x.chain(i, i + 1);
        }
        for (int i = 0; i < 12; i++) {
            x.lay(i % 9, 9, 5);
        }
        due("foresee", 60, () -> x.foresee(2, 0));
        due("lasts", 1, () -> x.lasts(9));
        due("needs", -1, () -> x.needs(9, 1));
        due("dirty", -1, () -> x.dirty(1));
        due("advise", -1, () -> x.advise(1));
        due("pass", 30, () -> x.pass(1));
        due("full", 0, x::full);
        dueCounts(x, new int[] {1, 10, 12, 0, 30, 0, 0, 0, 0, 0, 12});
        dueHouse(x, 9, new int[] {10, 100, 0, 1, 0, 0, -1, 3, 0, 1});
        duePipe(x, 11, new int[] {2, 9, 5, 1, 0});
        due("owes", 0, () -> x.owes(9, 8));
        long before = x.digest();
        dueLong("digest", before, x.digest());
        due("cart", 0, () -> x.cart(0, 500));
        due("water of 4", 100, () -> x.house(4, 2));
        due("cart", 0, () -> x.cart(0, 500));
        due("cart", 1, () -> x.cart(0, 1));
    }

    private static void aheadChangesNothing() {
        RoofWater x = pair();
        x.pass(9);
        long before = x.digest();
        Call[] calls = {
            () -> x.foresee(100, 0), () -> x.foresee(7, 1), () -> x.foresee(30, 2), () -> x.lasts(0),
            () -> x.lasts(1), () -> x.needs(0, 60), () -> x.needs(1, 9), () -> x.dirty(60),
            () -> x.advise(60), () -> x.drought(), x::full,
        };
        for (int i = 0; i < calls.length; i++) {
            promise = new int[] {15, 15, 15, 16, 16, 17, 17, 18, 19, 20, 21}[i];
            double first = calls[i].answer();
            dueLong("digest after looking ahead", before, x.digest());
            due("the same call again", first, calls[i]);
        }
    }
}
