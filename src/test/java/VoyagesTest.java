/** Promises 34 to 46. */
public final class VoyagesTest {
    private static final Due due = new Due();
    private static final int NONE = Due.NONE;

    public static void main(String[] args) {
        event();
        asOf();
        leg();
        legsFull();
        about();
        home();
        worked();
        split();
        jump();
        firstApart();
        nearer();
        wreck();
        wreckOfLikeOnes();
        count();
        due.end();
    }

    private static void event() {
        FooledNeedle x = new FooledNeedle();
        due.is("event first", x.event(19, 999, 5, 300), 0);
        due.is("event again", x.event(19, 0, 0, -300), 300);
        due.is("its part before", x.asOf(5, 999), 0);
        due.is("its part then", x.asOf(0, 0), -300);
        int[][] bad = {{-1, 0}, {1000, 0}, {0, 301}, {0, -301}, {Integer.MIN_VALUE, Integer.MAX_VALUE}};
        for (int[] row : bad) {
            due.is("day, v bad", x.event(19, row[0], 0, row[1]), Due.BAD);
            due.is("event 20", x.event(20, row[0], 0, row[1]), Due.UNKNOWN);
            due.is("event -1", x.event(-1, row[0], 0, row[1]), Due.UNKNOWN);
            due.is("part 6", x.event(19, row[0], 6, row[1]), Due.UNKNOWN);
            due.is("part -1", x.event(19, row[0], -1, row[1]), Due.UNKNOWN);
        }
        due.is("after what was refused", x.asOf(0, 0), -300);
        due.is("events", x.count(3), 1);
        due.is("event taken away", x.event(19, 5, 3, 0), -300);
        due.is("no events", x.count(3), 0);
        due.is("none was", x.event(19, 5, 3, 0), 0);
        due.is("nothing is put", x.asOf(0, 999), 0);
    }

    private static void asOf() {
        FooledNeedle x = new FooledNeedle();
        x.part(0, 2, 900);
        x.part(1, 2, 5);
        x.event(0, 10, 2, 300);
        x.event(1, 20, 2, 250);
        x.event(2, 10, 1, -7);
        due.is("ahead of all", x.asOf(2, 9), 900);
        due.is("from its day on", x.asOf(2, 10), 1200);
        due.is("between", x.asOf(2, 19), 1200);
        due.is("all", x.asOf(2, 20), 1450);
        due.is("at last", x.asOf(2, 999), 1450);
        due.is("another part", x.asOf(1, 10), -7);
        due.is("told stays", x.told(0, 2), 900);
        due.is("part 6", x.asOf(6, -1), Due.UNKNOWN);
        due.is("part -1", x.asOf(-1, 0), Due.UNKNOWN);
        due.is("day -1", x.asOf(0, -1), Due.BAD);
        due.is("day 1000", x.asOf(0, 1000), Due.BAD);
    }

    private static void leg() {
        FooledNeedle x = new FooledNeedle();
        int[][] bad = {
            {-1, 0, 0, 0, 0, 0}, {1000, 0, 0, 0, 0, 0}, {0, -1, 0, 0, 0, 0}, {0, 3200, 0, 0, 0, 0},
            {0, 0, -31, 0, 0, 0}, {0, 0, 31, 0, 0, 0}, {0, 0, 0, -1, 0, 0}, {0, 0, 0, 301, 0, 0},
            {0, 0, 0, 0, -1, 0}, {0, 0, 0, 0, 3200, 0}, {0, 0, 0, 0, 0, 601}, {0, 0, 0, 0, 0, -601},
            {0, 0, 0, 0, Due.BAD, 0}, {0, 0, 0, 0, 0, Due.BAD},
        };
        for (int[] row : bad) {
            due.is("leg bad", x.leg(row[0], row[1], row[2], row[3], row[4], row[5]), Due.BAD);
        }
        due.is("leg 0", x.leg(5, 0, -30, 0, NONE, NONE), 0);
        due.is("leg 1, the same day", x.leg(5, 3199, 30, 300, 3199, 600), 1);
        due.is("a day less", x.leg(4, 0, 0, 0, NONE, NONE), Due.STATE);
        for (int[] row : bad) {
            due.is("bad ahead of a day less", x.leg(row[0], row[1], row[2], row[3], row[4], row[5]), Due.BAD);
        }
        due.is("leg 2", x.leg(999, 0, 0, 0, 0, -600), 2);
        due.is("legs", x.count(0), 3);
        x.home();
        due.is("leg 0 of another voyage", x.leg(0, 0, 0, 0, NONE, NONE), 0);
    }

    private static void legsFull() {
        FooledNeedle x = new FooledNeedle();
        for (int leg = 0; leg < 40; leg++) {
            due.is("leg", x.leg(7, 0, 0, 300, NONE, NONE), leg);
        }
        due.is("full", x.leg(7, 0, 0, 0, NONE, NONE), Due.FULL);
        due.is("full and a day less", x.leg(6, 0, 0, 0, NONE, NONE), Due.STATE);
        due.is("full and bad", x.leg(6, 0, 0, 301, NONE, NONE), Due.BAD);
        due.is("40 legs", x.count(0), 40);
        due.is("all the miles", x.count(5), 12000);
        due.is("all to the north", x.worked(40, 0, 0, false), 12000000);
        due.is("home", x.home(), 40);
        due.is("room again", x.leg(6, 0, 0, 0, NONE, NONE), 0);
    }

    private static void about() {
        FooledNeedle x = new FooledNeedle();
        x.part(0, 1, 100);
        x.part(0, 5, 50);
        x.part(1, 5, 30);
        x.event(0, 8, 0, 11);
        x.leg(8, 850, -30, 17, 900, -60);
        x.leg(9, 3190, 10, 18, NONE, NONE);
        x.leg(9, 0, 0, 18, NONE, 0);
        int[] first = {8, 850, -30, 17, 900, -60};
        int[] second = {9, 3190, 10, 18, NONE, NONE};
        for (int what = 0; what < 6; what++) {
            due.is("about(0, " + what + ")", x.about(0, what), first[what]);
            due.is("about(1, " + what + ")", x.about(1, what), second[what]);
        }
        // At 8 the error is 11 + 100, at 9 11 + (98100 + 29250 by heeling) by 1000: 138; so 125 at 850.
        due.is("course", x.about(0, 6), 975);
        due.is("rest of the sun", x.about(0, 7), -185);
        // Compass 1 errs at 9 by 17.55, rounded to 18: 918, which is 57 back from 975.
        due.is("apart", x.about(0, 8), -57);
        // At 31 the error is 11 + (-19500 + 49050) by 1000: 41; at 0 it is 61; so 59 at 3190.
        due.is("course over north", x.about(1, 6), 49);
        due.is("no sun", x.about(1, 7), NONE);
        due.is("no other", x.about(1, 8), NONE);
        due.is("sun that told 0", x.about(2, 7), -11);
        x.part(0, 0, 100);
        due.is("course heeds parts as they are now", x.about(1, 6), 149);
        due.is("what 9", x.about(0, 9), Due.BAD);
        due.is("what -1", x.about(0, -1), Due.BAD);
        due.is("leg 3", x.about(3, 9), Due.UNKNOWN);
        due.is("leg -1", x.about(-1, 0), Due.UNKNOWN);
        x.home();
        due.is("leg 0, gone", x.about(0, 0), Due.UNKNOWN);
    }

    private static void home() {
        FooledNeedle x = new FooledNeedle();
        x.event(0, 1, 1, 5);
        x.leg(5, 0, 0, 100, NONE, 5);
        x.leg(5, 0, 0, 100, NONE, 5);
        due.is("home", x.home(), 2);
        due.is("home again", x.home(), 0);
        due.is("events stay", x.count(3), 1);
        due.is("no miles", x.count(5), 0);
        due.is("no split", x.split(), NONE);
        due.is("worked(0)", x.worked(0, 0, 0, false), 0);
        due.is("worked(1)", x.worked(1, 0, 0, false), Due.UNKNOWN);
    }

    private static void worked() {
        FooledNeedle x = new FooledNeedle();
        x.leg(2, 0, 0, 100, NONE, NONE);
        x.leg(4, 800, 0, 10, NONE, NONE);
        x.leg(4, 1650, 0, 3, NONE, NONE);
        x.leg(6, 3199, 0, 1, NONE, NONE);
        int[] north = {0, 100000, 100000, 97030, 98030};
        int[] east = {0, 0, 10000, 9709, 9707};
        for (int n = 0; n <= 4; n++) {
            due.is("north behind " + n, x.worked(n, 0, 0, false), north[n]);
            due.is("east behind " + n, x.worked(n, 0, 0, true), east[n]);
            due.is("no jump ahead of day 1000", x.worked(n, 1000, 77, true), east[n]);
        }
        due.is("jump from day 4 on, north", x.worked(2, 4, -800, false), 110000);
        due.is("jump from day 3 on, east", x.worked(2, 3, -800, true), 0);
        due.is("jump from day 5 on", x.worked(2, 5, -800, true), 10000);
        due.is("jump by half the round", x.worked(1, 0, -1600, false), -100000);
        due.is("jump round", x.worked(4, 6, 1, true), 9709);
        due.is("jump 1599", x.worked(1, 2, 1599, false), -100000);
        due.is("n -1", x.worked(-1, -1, 0, false), Due.UNKNOWN);
        due.is("n 5", x.worked(5, -1, 0, false), Due.UNKNOWN);
        due.is("day -1", x.worked(0, -1, 0, false), Due.BAD);
        due.is("day 1001", x.worked(0, 1001, 0, false), Due.BAD);
        due.is("s -1601", x.worked(0, 0, -1601, false), Due.BAD);
        due.is("s 1600", x.worked(0, 0, 1600, true), Due.BAD);
        x.part(0, 0, 800);
        due.is("by the course", x.worked(1, 0, 0, true), 100000);
        x.event(0, 4, 0, -300);
        x.event(1, 4, 0, -300);
        x.event(2, 5, 0, -200);
        due.is("as of the day", x.worked(2, 0, 0, false), 10 * -383);
    }

    private static void suns(FooledNeedle x, int... rests) {
        x.home();
        for (int i = 0; i < rests.length; i++) {
            x.leg(10 * i, 0, 0, 0, NONE, NONE);
            x.leg(10 * i, 0, 0, 0, NONE, rests[i]);
        }
    }

    private static void split() {
        FooledNeedle x = new FooledNeedle();
        due.is("no leg", x.split(), NONE);
        due.is("no leg, cost", x.splitCost(), NONE);
        x.leg(0, 0, 0, 0, 0, NONE);
        due.is("no sun", x.split(), NONE);
        due.is("no sun, cost", x.splitCost(), NONE);
        suns(x, 33);
        due.is("one", x.split(), 0);
        due.is("one, cost", x.splitCost(), 0);
        suns(x, 33, 33);
        due.is("alike", x.split(), 0);
        suns(x, 33, 34);
        due.is("two", x.split(), 1);
        due.is("two, cost", x.splitCost(), 0);
        suns(x, 0, 10, 20);
        due.is("of like ones the least", x.split(), 1);
        due.is("of like ones the cost", x.splitCost(), 10);
        suns(x, 5, -5, 5, 90, 110, 100, 95);
        due.is("a jump", x.split(), 3);
        due.is("a jump, cost", x.splitCost(), 10 + 25);
        x.part(0, 0, 500);
        due.is("rests and not what was told", x.splitCost(), 35);
        x.event(0, 25, 0, 95);
        // Now they are 5, -5, 5, -5, 15, 5, 0 (500 less each): least is lost if 0 stands alone.
        due.is("as of the day", x.split(), 6);
        due.is("as of the day, cost", x.splitCost(), 30);
    }

    private static void jump() {
        FooledNeedle x = new FooledNeedle();
        for (int what = 0; what <= 2; what++) {
            due.is("no leg", x.jump(what), NONE);
        }
        due.is("bad, no leg", x.jump(3), Due.BAD);
        due.is("bad -1, no leg", x.jump(-1), Due.BAD);
        suns(x, 7, 7, 7);
        for (int what = 0; what <= 2; what++) {
            due.is("no jump", x.jump(what), NONE);
        }
        suns(x, 5, -5, 5, 90, 110, 100, 95);
        // The middle of 90, 95, 100, 110 is number (4 - 1) by 2: 95.
        due.is("jump", x.jump(0), 90);
        due.is("jump from", x.jump(1), 20);
        due.is("jump to", x.jump(2), 30);
        due.is("bad", x.jump(3), Due.BAD);
        x.event(0, 30, 0, 90);
        due.is("told by an event, there is none left but small ones", x.jump(0) < 90 ? 1 : 0, 1);
        x.event(0, 0, 0, 0);
        x.home();
        x.leg(3, 0, 0, 0, NONE, 10);
        x.leg(4, 0, 0, 0, NONE, NONE);
        x.leg(5, 0, 0, 0, NONE, 50);
        due.is("the first leg has the sun: k", x.split(), 1);
        due.is("the first leg has the sun: from", x.jump(1), 3);
        due.is("the first leg has the sun: to", x.jump(2), 5);
        due.is("the first leg has the sun: jump", x.jump(0), 40);
        suns(x, -600, 600);
        due.is("the greatest jump", x.jump(0), 1200);
    }

    private static void firstApart() {
        FooledNeedle x = new FooledNeedle();
        due.is("no leg", x.firstApart(0), NONE);
        x.leg(0, 100, 0, 0, NONE, NONE);
        x.leg(0, 100, 0, 0, 100, NONE);
        due.is("none apart", x.firstApart(0), NONE);
        x.leg(1, 100, 0, 0, 90, NONE);
        x.leg(1, 100, 0, 0, 150, NONE);
        x.leg(1, 0, 0, 0, 1600, NONE);
        due.is("apart by more than 0", x.firstApart(0), 2);
        due.is("apart by more than 9", x.firstApart(9), 2);
        due.is("apart by more than 10", x.firstApart(10), 3);
        due.is("apart by more than 50", x.firstApart(50), 4);
        due.is("apart by more than 1599", x.firstApart(1599), 4);
        due.is("apart by more than 1600", x.firstApart(1600), NONE);
        due.is("limit -1", x.firstApart(-1), Due.BAD);
        due.is("limit 1601", x.firstApart(1601), Due.BAD);
        x.part(1, 0, 20);
        due.is("by compass 1", x.firstApart(10), 1);
        x.event(0, 0, 0, 20);
        due.is("by compass 0 as of the day", x.firstApart(10), 3);
        x.home();
        due.is("legs of another voyage", x.firstApart(0), NONE);
        x.leg(1, 100, 0, 0, 150, NONE);
        due.is("the first leg", x.firstApart(0), 0);
    }

    private static void nearer() {
        FooledNeedle x = new FooledNeedle();
        due.is("no leg", x.nearer(0), Due.UNKNOWN);
        x.leg(0, 3150, 0, 0, 10, 100);
        x.leg(0, 3150, 0, 0, 3190, 10);
        x.leg(0, 3150, 0, 0, 3170, 10);
        x.leg(0, 3150, 0, 0, NONE, 10);
        x.leg(0, 3150, 0, 0, 3170, NONE);
        x.leg(0, 3150, 0, 0, NONE, NONE);
        due.is("compass 1, over north", x.nearer(0), 1);
        due.is("compass 0", x.nearer(1), 0);
        due.is("alike", x.nearer(2), 2);
        for (int leg = 3; leg < 6; leg++) {
            due.is("not both", x.nearer(leg), Due.STATE);
        }
        due.is("leg 6", x.nearer(6), Due.UNKNOWN);
        due.is("leg -1", x.nearer(-1), Due.UNKNOWN);
        x.event(0, 0, 0, 10);
        due.is("by true as of the day", x.nearer(2), 0);
        x.part(1, 0, -15);
        due.is("by true of compass 1", x.nearer(2), 0);
        x.event(0, 0, 0, 0);
        due.is("by true of compass 1 alone", x.nearer(2), 1);
        x.part(0, 5, 100);
        x.home();
        x.leg(0, 0, 30, 0, 0, 300);
        due.is("heeled", x.nearer(0), 0);
    }

    private static void wreck() {
        FooledNeedle x = new FooledNeedle();
        due.is("no leg", x.wreck(0, 0, 0), NONE);
        int[][] bad = {{-10000, 0, 0}, {10000, 0, 0}, {0, -10000, 0}, {0, 10000, 0}, {0, 0, -1}, {0, 0, 3}};
        for (int[] row : bad) {
            due.is("bad, no leg", x.wreck(row[0], row[1], row[2]), Due.BAD);
        }
        x.leg(3, 0, 0, 100, NONE, NONE);
        x.leg(5, 800, 0, 100, NONE, NONE);
        x.leg(8, 0, 0, 100, NONE, NONE);
        for (int[] row : bad) {
            due.is("bad", x.wreck(row[0], row[1], row[2]), Due.BAD);
        }
        // A jump of 200 from day 5 on: 38.3 back, 92.4 on; 92.4 on, 38.3 to the east.
        int north = 100 + (-38300 + 92400) / 1000;
        int east = (92400 + 38300) / 1000;
        due.is("day", x.wreck(north, east, 0), 5);
        due.is("s", x.wreck(north, east, 1), 200);
        due.is("squares", x.wreck(north, east, 2), 0);
        due.is("squares off", x.wreck(north, east + 1, 2), 1);
        due.is("the farthest", x.wreck(-9999, 9999, 2), farthest(0, -9999, 9999));
        x.part(0, 0, 1);
        due.is("cut towards 0", x.wreck(-9999, -9999, 2), farthest(1, -9999, -9999));
        x.home();
        x.part(0, 0, 0);
        x.leg(3, 2400, 0, 100, NONE, NONE);
        due.is("just west: s", x.wreck(0, -100, 1), 0);
        due.is("just west: squares", x.wreck(0, -100, 2), 0);
        x.part(0, 0, 100);
        due.is("by the course", x.wreck(0, -100, 1), -100);
        due.is("by the course, squares", x.wreck(0, -100, 2), 0);
        x.event(0, 3, 0, 100);
        due.is("by the course as of the day", x.wreck(0, -100, 1), -200);
    }

    /** What is left of the voyage of wreck(), with A of a; asked of a PlainNeedle, which no number of calls binds. */
    private static int farthest(int a, int north, int east) {
        PlainNeedle y = new PlainNeedle();
        y.part(0, 0, a);
        int[] days = {3, 5, 8};
        for (int day : days) {
            y.leg(day, day == 5 ? 800 : 0, 0, 100, NONE, NONE);
        }
        int least = Integer.MAX_VALUE;
        for (int day : days) {
            for (int s = -300; s <= 300; s += 20) {
                int n = north - y.worked(3, day, s, false) / 1000;
                int e = east - y.worked(3, day, s, true) / 1000;
                least = Math.min(least, n * n + e * e);
            }
        }
        return least;
    }

    private static void wreckOfLikeOnes() {
        FooledNeedle x = new FooledNeedle();
        x.leg(3, 0, 0, 0, NONE, NONE);
        x.leg(9, 0, 0, 0, NONE, NONE);
        due.is("all alike: the least day", x.wreck(0, 0, 0), 3);
        due.is("all alike: the least s", x.wreck(0, 0, 1), -300);
        x.home();
        x.leg(3, 0, 0, 100, NONE, NONE);
        x.leg(9, 0, 0, 100, NONE, NONE);
        due.is("no jump: the least day", x.wreck(200, 0, 0), 3);
        due.is("no jump: s", x.wreck(200, 0, 1), 0);
        x.home();
        x.leg(3, 0, 0, 1, NONE, NONE);
        due.is("a mile north by s 0 alone", x.wreck(1, 0, 1), 0);
        x.home();
        x.leg(3, 0, 0, 10, NONE, NONE);
        x.leg(3, 0, 0, 10, NONE, NONE);
        // From s -20 to 20 it is 19 to the north but for s 0, and 0 to the east.
        due.is("of like ones the least s", x.wreck(19, 0, 1), -20);
    }

    private static void count() {
        FooledNeedle x = new FooledNeedle();
        x.leg(0, 0, 0, 100, NONE, NONE);
        x.leg(0, 0, 0, 23, NONE, NONE);
        x.bar(0, 9);
        x.bar(1, 9);
        x.bar(2, 9);
        x.ball(0, 2);
        x.ball(1, 2);
        x.layBar(0, 0, 2, false);
        x.layBar(1, 0, 2, false);
        x.layBall(1, 2);
        for (int event = 0; event < 5; event++) {
            x.event(event, 1, 1, 1);
        }
        for (int place = 0; place < 8; place++) {
            x.note(place % 3, place);
        }
        int[] counts = {2, 3, 5, 5, 8, 123};
        for (int what = 0; what < 6; what++) {
            due.is("count " + what, x.count(what), counts[what]);
        }
        due.is("count 6", x.count(6), Due.BAD);
        due.is("count -1", x.count(-1), Due.BAD);
        due.is("count greatest", x.count(Integer.MAX_VALUE), Due.BAD);
        due.is("count least", x.count(Integer.MIN_VALUE), Due.BAD);
    }
}
