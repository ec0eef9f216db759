/** The boundary cases of part 5 and of promises 34 to 46, sentence by sentence; RefusalsTest has what is refused. */
public final class VoyagesEdgesTest {
    private static final Due due = new Due();
    private static final int NONE = Due.NONE;

    public static void main(String[] args) {
        eventEnds();
        eventInsteadOfWhatItWas();
        asOfFromItsDayOn();
        asOfAllEvents();
        legEnds();
        legDays();
        legsUpToFull();
        aboutNone();
        aboutCourse();
        aboutSunsRest();
        aboutApart();
        home();
        workedBehindEach();
        workedWithAJump();
        workedRound();
        workedAtMost();
        splitOfFew();
        splitOfLikeOnes();
        splitMiddle();
        splitOfAll();
        splitOfRestsThatLookLikeNone();
        splitAsItIsNow();
        jump();
        jumpDays();
        firstApart();
        nearer();
        wreckOfJumps();
        wreckCutTowardsZero();
        wreckOfLikeOnes();
        wreckFarOff();
        countEmptyAndFull();
        due.end();
    }

    private static void eventEnds() {
        due.about("34, EVENTS 0 .. 19, DAY 0 .. 999, -300 .. 300");
        FooledNeedle x = new FooledNeedle();
        for (int event = 0; event < 20; event++) {
            due.is("300 on day 999", x.event(event, 999, 5, 300), 0);
            due.is("one more", x.count(3), event + 1);
            due.is("-300 on day 0", x.event(event, 0, 0, -300), 300);
            due.is("no more", x.count(3), event + 1);
            due.is("301", x.event(event, 0, 1, 301), Due.BAD);
            due.is("-301", x.event(event, 0, 1, -301), Due.BAD);
            due.is("day 1000", x.event(event, 1000, 1, 1), Due.BAD);
            due.is("day -1", x.event(event, -1, 1, 1), Due.BAD);
            due.is("part 6", x.event(event, 0, 6, 1), Due.UNKNOWN);
            due.is("as it was", x.asOf(0, 0), -300 * (event + 1));
        }
        due.is("event 20, all are told", x.event(20, 0, 0, 1), Due.UNKNOWN);
        due.is("event -1", x.event(-1, 0, 0, 1), Due.UNKNOWN);
        due.is("twenty", x.count(3), 20);
    }

    private static void eventInsteadOfWhatItWas() {
        due.about("34, (instead of what it was; v 0: none)");
        FooledNeedle x = new FooledNeedle();
        due.is("first", x.event(3, 10, 1, 20), 0);
        due.is("another part", x.event(3, 10, 2, 30), 20);
        due.is("nothing is put to the first", x.asOf(1, 999), 0);
        due.is("another day", x.event(3, 50, 2, 40), 30);
        due.is("not yet", x.asOf(2, 49), 0);
        due.is("then", x.asOf(2, 50), 40);
        due.is("below 0", x.event(3, 50, 2, -1), 40);
        due.is("one event", x.count(3), 1);
        due.is("none", x.event(3, 999, 5, 0), -1);
        due.is("no event", x.count(3), 0);
        due.is("nothing is put", x.asOf(2, 999), 0);
        due.is("none again", x.event(3, 0, 0, 0), 0);
        due.is("told anew", x.event(3, 0, 0, 1), 0);
    }

    private static void asOfFromItsDayOn() {
        due.about("35, from a DAY on");
        int[][] rows = {{0, 0}, {1, 0}, {500, 499}, {999, 998}};
        for (int[] row : rows) {
            for (int part = 0; part < 6; part++) {
                FooledNeedle x = new FooledNeedle();
                x.part(0, part, 7);
                x.part(1, part, 9);
                x.event(19, row[0], part, 100);
                due.is("on day " + row[0], x.asOf(part, row[0]), 107);
                due.is("on day 999", x.asOf(part, 999), 107);
                if (row[0] > 0) {
                    due.is("on day " + row[1], x.asOf(part, row[1]), 7);
                    due.is("on day 0", x.asOf(part, 0), 7);
                }
                due.is("another part", x.asOf((part + 1) % 6, 999), 0);
                due.is("told", x.told(0, part), 7);
                due.is("compass 1", x.told(1, part), 9);
                due.is("error of the card told", x.error(0, 0, 10), new int[] {7, 0, 7, 0, 7, 7}[part]);
            }
        }
    }

    private static void asOfAllEvents() {
        due.about("35, all EVENTS on one PART, not held to 999");
        for (int sign = -1; sign <= 1; sign += 2) {
            FooledNeedle x = new FooledNeedle();
            x.part(0, 4, 999 * sign);
            for (int event = 0; event < 20; event++) {
                x.event(event, event, 4, 300 * sign);
            }
            for (int day = 0; day < 20; day++) {
                due.is("on day " + day, x.asOf(4, day), sign * (999 + 300 * (day + 1)));
            }
            due.is("on the last day", x.asOf(4, 999), 6999 * sign);
            x.leg(19, 0, 0, 1, NONE, NONE);
            due.is("the course by it", x.about(0, 6), sign > 0 ? 6999 - 6400 : 9600 - 6999);
        }
    }

    private static void legEnds() {
        due.about("36, READING, heel, miles, other, sun from end to end");
        FooledNeedle x = new FooledNeedle();
        int[][] legs = {
            {0, 0, -30, 0, 0, -600}, {0, 3199, 30, 300, 3199, 600}, {999, 0, 0, 1, NONE, 0}, {999, 1, 1, 299, 1, NONE},
            {999, 3198, -1, 150, NONE, NONE},
        };
        for (int leg = 0; leg < legs.length; leg++) {
            int[] a = legs[leg];
            due.is("leg " + leg, x.leg(a[0], a[1], a[2], a[3], a[4], a[5]), leg);
            due.is("day 1000", x.leg(1000, 0, 0, 0, NONE, NONE), Due.BAD);
            due.is("other " + (NONE + 1), x.leg(999, 0, 0, 0, NONE + 1, NONE), Due.BAD);
            due.is("sun " + (NONE + 1), x.leg(999, 0, 0, 0, NONE, NONE + 1), Due.BAD);
            due.is("legs", x.count(0), leg + 1);
        }
        for (int leg = 0; leg < legs.length; leg++) {
            for (int what = 0; what < 6; what++) {
                due.is("about " + leg + ", " + what, x.about(leg, what), legs[leg][what]);
            }
        }
    }

    private static void legDays() {
        due.about("36, a DAY, no less than that of the LEG ahead");
        FooledNeedle x = new FooledNeedle();
        due.is("the first may be any", x.leg(0, 0, 0, 0, NONE, NONE), 0);
        due.is("the same day", x.leg(0, 0, 0, 0, NONE, NONE), 1);
        due.is("a later one", x.leg(5, 0, 0, 0, NONE, NONE), 2);
        due.is("one less", x.leg(4, 0, 0, 0, NONE, NONE), Due.STATE);
        due.is("that of the first", x.leg(0, 0, 0, 0, NONE, NONE), Due.STATE);
        due.is("the same again", x.leg(5, 0, 0, 0, NONE, NONE), 3);
        due.is("the last", x.leg(999, 0, 0, 0, NONE, NONE), 4);
        due.is("998", x.leg(998, 0, 0, 0, NONE, NONE), Due.STATE);
        due.is("bad and less", x.leg(998, 0, 31, 0, NONE, NONE), Due.BAD);
        x.home();
        due.is("none is ahead any more", x.leg(3, 0, 0, 0, NONE, NONE), 0);
        due.is("less than that", x.leg(2, 0, 0, 0, NONE, NONE), Due.STATE);
    }

    private static void legsUpToFull() {
        due.about("36, 40 at most; FULL");
        FooledNeedle x = new FooledNeedle();
        for (int leg = 0; leg < 40; leg++) {
            due.is("leg", x.leg(10 + leg, leg, 0, leg, NONE, NONE), leg);
            due.is("legs", x.count(0), leg + 1);
        }
        due.is("one more", x.leg(49, 0, 0, 0, NONE, NONE), Due.FULL);
        due.is("one more, later", x.leg(999, 0, 0, 0, NONE, NONE), Due.FULL);
        due.is("STATE ahead of FULL", x.leg(48, 0, 0, 0, NONE, NONE), Due.STATE);
        due.is("BAD ahead of both", x.leg(48, 3200, 0, 0, NONE, NONE), Due.BAD);
        due.is("40 legs", x.count(0), 40);
        due.is("the last", x.about(39, 1), 39);
        due.is("none behind it", x.about(40, 1), Due.UNKNOWN);
        due.is("home", x.home(), 40);
        due.is("room again", x.leg(0, 0, 0, 0, NONE, NONE), 0);
    }

    private static void aboutNone() {
        due.about("37, NONE: none; 0 is not none");
        FooledNeedle x = new FooledNeedle();
        x.leg(0, 0, 0, 0, NONE, NONE);
        x.leg(0, 0, 0, 0, 0, 0);
        due.is("no other", x.about(0, 4), NONE);
        due.is("no sun", x.about(0, 5), NONE);
        due.is("no rest", x.about(0, 7), NONE);
        due.is("not apart", x.about(0, 8), NONE);
        due.is("other 0", x.about(1, 4), 0);
        due.is("sun 0", x.about(1, 5), 0);
        due.is("rest 0", x.about(1, 7), 0);
        due.is("apart 0", x.about(1, 8), 0);
        due.is("what 9", x.about(1, 9), Due.BAD);
        due.is("what -1", x.about(1, -1), Due.BAD);
        due.is("leg 2, what 9", x.about(2, 9), Due.UNKNOWN);
    }

    private static void aboutCourse() {
        due.about("37, its COURSE: TRUE, round, heeled, as of its DAY");
        FooledNeedle x = new FooledNeedle();
        x.event(0, 5, 0, 1);
        x.leg(4, 3199, 0, 0, NONE, NONE);
        x.leg(5, 3199, 0, 0, NONE, NONE);
        x.leg(5, 0, 30, 0, NONE, NONE);
        x.leg(5, 0, -30, 0, NONE, NONE);
        x.leg(5, 1650, 0, 0, NONE, NONE);
        due.is("the day ahead of the event", x.about(0, 6), 3199);
        due.is("on its day, over north", x.about(1, 6), 0);
        x.part(0, 5, 100);
        due.is("heeled by 30", x.about(2, 6), 301);
        due.is("heeled by -30, back over north", x.about(3, 6), 3200 - 299);
        x.part(1, 0, 50);
        due.is("compass 1 does not count", x.about(1, 6), 0);
        x.part(0, 0, -1);
        due.is("the part as it is now", x.about(0, 6), 3198);
        due.is("both", x.about(1, 6), 3199);
        x.bar(0, 800);
        x.layBar(0, 1, 2, false);
        due.is("no magnet in it", x.about(4, 6), 1650);
    }

    private static void aboutSunsRest() {
        due.about("37, THE SUN'S REST: what it told less THE ERROR");
        FooledNeedle x = new FooledNeedle();
        x.part(0, 0, 999);
        x.event(0, 7, 0, 300);
        x.leg(6, 0, 0, 0, NONE, -600);
        x.leg(7, 0, 0, 0, NONE, -600);
        x.leg(7, 3150, 30, 0, NONE, 600);
        due.is("a day ahead", x.about(0, 7), -1599);
        due.is("on the day", x.about(1, 7), -1899);
        x.part(0, 5, 300);
        // 900 at north, 883 at 31: 892 between them.
        due.is("heeled, between, over north", x.about(2, 7), 600 - 1299 - 892);
        x.part(0, 0, -999);
        due.is("above", x.about(0, 7), 399);
    }

    private static void aboutApart() {
        due.about("37, APART: THE WAY from TRUE by COMPASS 0 to TRUE by COMPASS 1");
        int[][] rows = {{0, 1599, 1599}, {0, 1600, -1600}, {0, 1601, -1599}, {3199, 0, 1}, {0, 3199, -1}, {7, 7, 0}};
        for (int[] row : rows) {
            FooledNeedle x = new FooledNeedle();
            x.leg(3, row[0], 0, 0, row[1], NONE);
            due.is(row[0] + " and " + row[1], x.about(0, 8), row[2]);
        }
        FooledNeedle x = new FooledNeedle();
        x.leg(3, 0, 10, 0, 0, NONE);
        x.part(0, 5, 30);
        due.is("compass 0 heeled", x.about(0, 8), -30);
        x.part(1, 5, 50);
        due.is("both heeled", x.about(0, 8), 20);
        x.event(0, 3, 0, 5);
        due.is("compass 0 as of its day alone", x.about(0, 8), 15);
        x.event(0, 4, 0, 5);
        due.is("a day later", x.about(0, 8), 20);
        x.part(2, 0, 999);
        due.is("compass 2 does not count", x.about(0, 8), 20);
    }

    private static void home() {
        due.about("38, all LEGS are taken away: how many");
        FooledNeedle x = new FooledNeedle();
        due.is("none", x.home(), 0);
        x.event(0, 5, 1, 5);
        x.leg(9, 0, 0, 100, 0, 5);
        due.is("one", x.home(), 1);
        due.is("none is left", x.home(), 0);
        due.is("about", x.about(0, 0), Due.UNKNOWN);
        due.is("worked(0)", x.worked(0, 0, 0, false), 0);
        due.is("worked(1)", x.worked(1, 0, 0, false), Due.UNKNOWN);
        due.is("split", x.split(), NONE);
        due.is("splitCost", x.splitCost(), NONE);
        due.is("firstApart", x.firstApart(0), NONE);
        due.is("nearer", x.nearer(0), Due.UNKNOWN);
        due.is("wreck", x.wreck(0, 0, 2), NONE);
        due.is("miles", x.count(5), 0);
        due.is("events stay", x.count(3), 1);
        due.is("from their days on", x.asOf(1, 5) - x.asOf(1, 4), 5);
        x.leg(8, 800, 0, 1, NONE, NONE);
        due.is("nothing of the old one", x.about(0, 4), NONE);
        due.is("nothing of its sun", x.split(), NONE);
    }

    private static void workedBehindEach() {
        due.about("39, behind LEG n - 1 (n 0 .. LEGS; 0: 0)");
        FooledNeedle x = new FooledNeedle();
        x.leg(1, 0, 0, 10, NONE, NONE);
        x.leg(2, 800, 0, 20, NONE, NONE);
        x.leg(3, 1600, 0, 40, NONE, NONE);
        x.leg(4, 2400, 0, 300, NONE, NONE);
        int[] north = {0, 10000, 10000, -30000, -30000};
        int[] east = {0, 0, 20000, 20000, -280000};
        for (int n = 0; n <= 4; n++) {
            due.is("north, n " + n, x.worked(n, 0, 0, false), north[n]);
            due.is("east, n " + n, x.worked(n, 0, 0, true), east[n]);
        }
        due.is("n 5", x.worked(5, 0, 0, false), Due.UNKNOWN);
        due.is("n -1", x.worked(-1, 0, 0, false), Due.UNKNOWN);
        due.is("n 0 and day 1001", x.worked(0, 1001, 0, false), Due.BAD);
        due.is("n 5 and day 1001", x.worked(5, 1001, 0, false), Due.UNKNOWN);
        due.is("n 0 with a jump", x.worked(0, 0, 1599, true), 0);
    }

    private static void workedWithAJump() {
        due.about("39, s put to all COURSES from that DAY on, DAY 0 .. 1000");
        FooledNeedle x = new FooledNeedle();
        x.leg(0, 0, 0, 1, NONE, NONE);
        x.leg(5, 0, 0, 10, NONE, NONE);
        x.leg(5, 0, 0, 20, NONE, NONE);
        x.leg(999, 0, 0, 100, NONE, NONE);
        int[][] rows = {{0, 131000}, {1, 130000}, {4, 130000}, {5, 130000}, {6, 100000}, {998, 100000}, {999, 100000}, {1000, 0}};
        for (int[] row : rows) {
            due.is("from day " + row[0] + " on", x.worked(4, row[0], 800, true), row[1]);
            due.is("north", x.worked(4, row[0], 800, false), 131000 - row[1]);
        }
        due.is("day 1000, nothing jumps", x.worked(4, 1000, -1600, false), 131000);
        due.is("those up to n alone", x.worked(3, 5, 800, true), 30000);
    }

    private static void workedRound() {
        due.about("39, s of -1600 .. 1599, round");
        FooledNeedle x = new FooledNeedle();
        x.leg(0, 0, 0, 100, NONE, NONE);
        due.is("s 1599, east", x.worked(1, 0, 1599, true), 200);
        due.is("s 1599, north", x.worked(1, 0, 1599, false), -100000);
        due.is("s -1600, east", x.worked(1, 0, -1600, true), 0);
        due.is("s -1600, north", x.worked(1, 0, -1600, false), -100000);
        due.is("s -1: back over north", x.worked(1, 0, -1, true), -200);
        due.is("s -800", x.worked(1, 0, -800, true), -100000);
        x.home();
        x.leg(0, 3199, 0, 100, NONE, NONE);
        due.is("3199", x.worked(1, 0, 0, true), -200);
        due.is("s 1: on over north", x.worked(1, 0, 1, true), 0);
        due.is("s 1599", x.worked(1, 0, 1599, true), 400);
        due.is("s -1600", x.worked(1, 0, -1600, true), 200);
    }

    private static void workedAtMost() {
        due.about("39, the farthest of all");
        FooledNeedle x = new FooledNeedle();
        for (int leg = 0; leg < 40; leg++) {
            x.leg(0, 0, 0, 300, NONE, NONE);
        }
        due.is("north", x.worked(40, 0, 0, false), 12000000);
        due.is("south", x.worked(40, 0, -1600, false), -12000000);
        due.is("east", x.worked(40, 0, 800, true), 12000000);
        due.is("west", x.worked(40, 0, -800, true), -12000000);
        due.is("39 of them", x.worked(39, 0, 0, false), 11700000);
    }

    /** A leg with the sun for each, ten days apart, and one without it on the day ahead of each. */
    private static FooledNeedle suns(int... rests) {
        FooledNeedle x = new FooledNeedle();
        for (int i = 0; i < rests.length; i++) {
            x.leg(10 * i + 9, 0, 0, 0, NONE, NONE);
            x.leg(10 * i + 10, 0, 0, 0, NONE, rests[i]);
        }
        return x;
    }

    private static void splits(String of, FooledNeedle x, int k, int cost) {
        due.is(of + ": split", x.split(), k);
        due.is(of + ": cost", x.splitCost(), cost);
    }

    private static void splitOfFew() {
        due.about("40 and 41, NONE: there is no LEG with THE SUN");
        splits("no leg", new FooledNeedle(), NONE, NONE);
        FooledNeedle x = new FooledNeedle();
        x.leg(0, 0, 0, 300, 0, NONE);
        splits("no sun", x, NONE, NONE);
        x.leg(0, 0, 0, 300, 0, 0);
        splits("one with the sun", x, 0, 0);
        splits("one", suns(-600), 0, 0);
        splits("two alike", suns(5, 5), 0, 0);
        splits("two", suns(5, 6), 1, 0);
        splits("two from end to end", suns(600, -600), 1, 0);
    }

    private static void splitOfLikeOnes() {
        due.about("40, of like ones the least k");
        splits("all alike", suns(3, 3, 3, 3, 3), 0, 0);
        // 1 and 2 leave 10 each.
        splits("three steps", suns(0, 10, 20), 1, 10);
        // 0 costs 10, 1 costs 10, 2 and 3 too: 10 stands out in the middle.
        splits("one in the middle stands out", suns(0, 10, 0), 0, 10);
        // 1 costs 10, 3 costs 10.
        splits("two steps alike", suns(0, 10, 10, 20), 1, 10);
        splits("the last alone", suns(7, 7, 7, 50), 3, 0);
        splits("the first alone", suns(50, 7, 7, 7), 1, 0);
    }

    private static void splitMiddle() {
        due.about("40 to 42, the middle REST: the one of number (how many less 1) by 2, cut");
        // Of 0, 1, 8, 9 the middle is 1; of 100, 102, 109 it is 102.
        FooledNeedle x = suns(9, 0, 8, 1, 109, 100, 102);
        splits("four and three", x, 4, 1 + 0 + 7 + 8 + 2 + 0 + 7);
        due.is("the jump of it", x.jump(0), 101);
        // Of 2 the middle is the lesser one, whichever comes first.
        FooledNeedle y = suns(10, 0, 300, 304);
        splits("two and two", y, 2, 14);
        due.is("the jump of two and two", y.jump(0), 300);
        FooledNeedle z = suns(0, 10, 304, 300);
        splits("two and two, the other way about", z, 2, 14);
        due.is("the jump of it", z.jump(0), 300);
        FooledNeedle below = suns(-300, -304, -500, -510, -505);
        splits("below 0", below, 2, 14);
        due.is("the jump below 0", below.jump(0), -505 + 304);
    }

    private static void splitOfAll() {
        due.about("40 and 41, all 40 LEGS with THE SUN");
        for (int k = 1; k < 40; k += 19) {
            FooledNeedle x = new FooledNeedle();
            for (int leg = 0; leg < 40; leg++) {
                x.leg(leg, 0, 0, 0, NONE, leg < k ? -600 : 600);
            }
            splits("jump behind " + k, x, k, 0);
            due.is("the jump", x.jump(0), 1200);
            due.is("from", x.jump(1), k - 1);
            due.is("to", x.jump(2), k);
        }
        FooledNeedle x = new FooledNeedle();
        for (int leg = 0; leg < 40; leg++) {
            x.leg(0, 0, 0, 0, NONE, leg % 2 == 0 ? -600 : 600);
        }
        // The first alone leaves 39 with 19 of -600: the middle is 600.
        splits("to and fro", x, 1, 19 * 1200);
    }

    private static void splitOfRestsThatLookLikeNone() {
        due.about("40 to 42, a REST of -2009 is a REST");
        FooledNeedle x = new FooledNeedle();
        x.part(0, 0, 999);
        x.event(0, 0, 0, 300);
        x.event(1, 0, 0, 110);
        x.leg(1, 0, 0, 0, NONE, -600);
        x.leg(2, 0, 0, 0, NONE, -591);
        due.is("the rest", x.about(0, 7), -2009);
        due.is("the other", x.about(1, 7), -2000);
        splits("both", x, 1, 0);
        due.is("the jump", x.jump(0), 9);
        due.is("from", x.jump(1), 1);
    }

    private static void splitAsItIsNow() {
        due.about("40 to 42, as it is now, whatever was asked ahead of it");
        due.is("the cost asked first", suns(0, 10, 20).splitCost(), 10);
        due.is("the jump asked first", suns(0, 10, 20).jump(0), 10);
        FooledNeedle x = suns(0, 0, 80);
        splits("a jump", x, 2, 0);
        x.event(0, 30, 0, 80);
        splits("told by an event", x, 0, 0);
        due.is("no jump any more", x.jump(0), NONE);
        x.event(0, 20, 0, 80);
        splits("told a leg too early", x, 0, 80);
        x.home();
        splits("no leg", x, NONE, NONE);
        due.is("no leg, no jump", x.jump(1), NONE);
        x.leg(5, 0, 0, 0, NONE, 3);
        splits("one leg", x, 0, 0);
        due.is("one leg, no jump", x.jump(2), NONE);
    }

    private static void jump() {
        due.about("42, if it has LEGS on both sides; NONE: there is none");
        FooledNeedle[] none = {new FooledNeedle(), suns(4), suns(4, 4), suns(0, 10, 0)};
        for (FooledNeedle x : none) {
            for (int what = 0; what <= 2; what++) {
                due.is("no jump, what " + what, x.jump(what), NONE);
            }
            due.is("what 3", x.jump(3), Due.BAD);
            due.is("what -1", x.jump(-1), Due.BAD);
        }
        FooledNeedle x = suns(-600, 600);
        due.is("the greatest", x.jump(0), 1200);
        due.is("what 3", x.jump(3), Due.BAD);
        due.is("what -1", x.jump(-1), Due.BAD);
        due.is("the least", suns(600, -600).jump(0), -1200);
        due.is("by one", suns(4, 5).jump(0), 1);
    }

    private static void jumpDays() {
        due.about("42, between the DAY of the last one ahead and that of the first one behind");
        FooledNeedle x = suns(1, 1, 50, 50, 50);
        due.is("last ahead", x.jump(1), 20);
        due.is("first behind", x.jump(2), 30);
        FooledNeedle y = suns(1, 50, 50);
        due.is("the first of all", y.jump(1), 10);
        due.is("the second", y.jump(2), 20);
        FooledNeedle z = suns(1, 1, 50);
        due.is("the last but one", z.jump(1), 20);
        due.is("the last of all", z.jump(2), 30);
        FooledNeedle same = new FooledNeedle();
        same.leg(7, 0, 0, 0, NONE, 0);
        same.leg(7, 0, 0, 0, NONE, 80);
        due.is("on one day, from", same.jump(1), 7);
        due.is("on one day, to", same.jump(2), 7);
        FooledNeedle ends = new FooledNeedle();
        ends.leg(0, 0, 0, 0, NONE, 0);
        ends.leg(999, 0, 0, 0, NONE, 80);
        due.is("day 0", ends.jump(1), 0);
        due.is("day 999", ends.jump(2), 999);
    }

    private static void firstApart() {
        due.about("43, by more than a limit (0 .. 1600) in size; NONE");
        FooledNeedle x = new FooledNeedle();
        due.is("no leg", x.firstApart(0), NONE);
        x.leg(0, 5, 0, 0, NONE, 600);
        due.is("no other", x.firstApart(0), NONE);
        x.leg(0, 5, 0, 0, 5, NONE);
        due.is("not apart", x.firstApart(0), NONE);
        x.leg(0, 0, 0, 0, 3199, NONE);
        x.leg(0, 3199, 0, 0, 1, NONE);
        x.leg(0, 0, 0, 0, 1599, NONE);
        x.leg(0, 0, 0, 0, 1600, NONE);
        due.is("-1, more than 0", x.firstApart(0), 2);
        due.is("2, more than 1", x.firstApart(1), 3);
        due.is("2 is not more than 2", x.firstApart(2), 4);
        due.is("1599, more than 1598", x.firstApart(1598), 4);
        due.is("-1600, more than 1599", x.firstApart(1599), 5);
        due.is("-1600 is not more than 1600", x.firstApart(1600), NONE);
        FooledNeedle first = new FooledNeedle();
        first.leg(0, 0, 0, 0, 1, NONE);
        due.is("the first of all", first.firstApart(0), 0);
        FooledNeedle last = new FooledNeedle();
        for (int leg = 0; leg < 40; leg++) {
            last.leg(0, 0, 0, 0, leg == 39 ? 9 : 0, NONE);
        }
        due.is("the last of all", last.firstApart(8), 39);
        due.is("none of all", last.firstApart(9), NONE);
    }

    private static void nearer() {
        due.about("44, 0, 1; 2: alike; STATE: it has not both");
        int[][] rows = {
            // reading, other, sun, nearer: with no error TRUE is the reading of each
            {0, 20, 10, 2}, {0, 19, 10, 1}, {0, 21, 10, 0}, {0, 0, 10, 2}, {0, 10, 0, 0}, {0, 3190, -5, 2}, {0, 3191, -5, 1},
            {3199, 0, 1, 1}, {0, 3199, -1, 1}, {3190, 10, 10, 2}, {0, 1600, 600, 0}, {0, 1799, 600, 0}, {0, 1200, 600, 2},
            {0, 2200, -600, 1}, {0, 2000, -600, 2}, {0, 2001, -600, 1}, {100, 1700, 0, 0},
        };
        for (int[] row : rows) {
            FooledNeedle x = new FooledNeedle();
            x.leg(0, row[0], 0, 0, row[1], row[2]);
            due.is("reading " + row[0] + ", other " + row[1] + ", sun " + row[2], x.nearer(0), row[3]);
        }
        nearerFromTheOtherSide();
        FooledNeedle x = new FooledNeedle();
        due.is("no leg", x.nearer(0), Due.UNKNOWN);
        x.leg(5, 0, 10, 0, 0, 100);
        x.leg(5, 0, 0, 0, NONE, 0);
        x.leg(5, 0, 0, 0, 0, NONE);
        due.is("no other", x.nearer(1), Due.STATE);
        due.is("no sun", x.nearer(2), Due.STATE);
        due.is("behind the last", x.nearer(3), Due.UNKNOWN);
        due.is("alike", x.nearer(0), 2);
        x.part(0, 5, 1);
        due.is("compass 0 heeled", x.nearer(0), 0);
        x.part(1, 5, 2);
        due.is("compass 1 heeled", x.nearer(0), 1);
        x.event(0, 5, 0, 1);
        due.is("compass 0 as of its day", x.nearer(0), 2);
        x.event(0, 6, 0, 1);
        due.is("not as of a later one", x.nearer(0), 1);
    }

    /** TRUE by COMPASS 0 is half the round off, THE WAY -1600, which is farther than 1599. */
    private static void nearerFromTheOtherSide() {
        FooledNeedle x = new FooledNeedle();
        x.part(0, 0, 999);
        x.event(0, 0, 0, 300);
        x.event(1, 0, 0, 300);
        x.event(2, 0, 0, 1);
        x.leg(0, 0, 0, 0, 1600, 0);
        x.leg(0, 0, 0, 0, 1599, 0);
        x.leg(0, 0, 0, 0, 1601, 0);
        due.is("compass 0 half round", x.about(0, 6), 1600);
        due.is("both half round", x.nearer(0), 2);
        due.is("one short of it", x.nearer(1), 1);
        due.is("one beyond it", x.nearer(2), 1);
    }

    private static void wrecks(String of, FooledNeedle x, int north, int east, int... answers) {
        for (int what = 0; what <= 2; what++) {
            due.is(of + ", what " + what, x.wreck(north, east, what), answers[what]);
        }
    }

    private static FooledNeedle oneLeg(int r, int miles) {
        FooledNeedle x = new FooledNeedle();
        x.leg(3, r, 0, miles, NONE, NONE);
        return x;
    }

    private static void wreckOfJumps() {
        due.about("45, s from -300 to 300 by 20, from the DAY of a LEG on");
        FooledNeedle x = oneLeg(0, 300);
        wrecks("no jump", x, 300, 0, 3, 0, 0);
        // COS of 300 is 831, SIN 556.
        wrecks("300", x, 249, 166, 3, 300, 0);
        wrecks("-300", x, 249, -166, 3, -300, 0);
        wrecks("more than 300", x, 0, 300, 3, 300, 249 * 249 + 134 * 134);
        wrecks("less than -300", x, 0, -300, 3, -300, 249 * 249 + 134 * 134);
        // 10 would end just there; 20 ends at 298, 11, and 0 at 300, 0.
        wrecks("between 0 and 20", x, 299, 6, 3, 20, 26);
        FooledNeedle two = new FooledNeedle();
        two.leg(0, 0, 0, 100, NONE, NONE);
        two.leg(7, 0, 0, 100, NONE, NONE);
        two.leg(7, 800, 0, 100, NONE, NONE);
        two.leg(999, 0, 0, 100, NONE, NONE);
        // 200 puts 100 miles north to 92.4 and 38.3, and 100 miles east to -38.3 and 92.4.
        wrecks("from the first day on", two, 238, 207, 0, 200, 0);
        wrecks("from day 7 on, both legs of it", two, 246, 169, 7, 200, 0);
        wrecks("from the last day on", two, 292, 138, 999, 200, 0);
        FooledNeedle none = new FooledNeedle();
        wrecks("no leg", none, 0, 0, NONE, NONE, NONE);
        due.is("no leg, what 3", none.wreck(0, 0, 3), Due.BAD);
        due.is("no leg, too far", none.wreck(10000, 0, 0), Due.BAD);
    }

    private static void wreckCutTowardsZero() {
        due.about("45, in whole miles, cut towards 0");
        // One mile that never is a whole one to either side, whatever s is.
        int[] readings = {50, 850, 1650, 2450};
        int[][] sides = {{1, 0}, {0, 1}, {-1, 0}, {0, -1}};
        for (int i = 0; i < 4; i++) {
            FooledNeedle x = oneLeg(readings[i], 1);
            wrecks("by " + readings[i] + ", at 0, 0", x, 0, 0, 3, -300, 0);
            wrecks("by " + readings[i] + ", a mile on", x, sides[i][0], sides[i][1], 3, -300, 1);
            wrecks("by " + readings[i] + ", a mile back", x, -sides[i][0], -sides[i][1], 3, -300, 1);
        }
        for (int i = 0; i < 4; i++) {
            FooledNeedle x = oneLeg(800 * i, 1);
            wrecks("just a mile by " + (800 * i), x, sides[i][0], sides[i][1], 3, 0, 0);
        }
    }

    private static void wreckOfLikeOnes() {
        due.about("45, of like ones the least DAY, then the least s");
        FooledNeedle still = new FooledNeedle();
        still.leg(3, 0, 0, 0, NONE, NONE);
        still.leg(9, 0, 0, 0, NONE, NONE);
        wrecks("no miles", still, 5, 0, 3, -300, 25);
        FooledNeedle late = new FooledNeedle();
        late.leg(3, 0, 0, 0, NONE, NONE);
        late.leg(9, 0, 0, 300, NONE, NONE);
        wrecks("miles on the last day alone", late, 249, 166, 3, 300, 0);
        FooledNeedle x = new FooledNeedle();
        x.leg(3, 400, 0, 100, NONE, NONE);
        x.leg(9, 0, 0, 10, NONE, NONE);
        // From day 9 on, -20 ends there too.
        wrecks("the least day ahead of the least s", x, 80, 70, 3, 0, 0);
        FooledNeedle y = new FooledNeedle();
        y.leg(3, 2800, 0, 100, NONE, NONE);
        y.leg(9, 2400, 0, 100, NONE, NONE);
        // -120 from day 9 on is off by 2378 too.
        wrecks("the least day ahead of a lesser s", y, 60, -120, 3, 40, 2378);
        FooledNeedle z = new FooledNeedle();
        z.leg(3, 2800, 0, 50, NONE, NONE);
        z.leg(9, 1200, 0, 100, NONE, NONE);
        // 60 and 80 from day 3 on, 40 from day 9 on.
        wrecks("the least s of the least day", z, -60, 50, 3, 60, 841);
    }

    private static void wreckFarOff() {
        due.about("45, -9999 .. 9999 miles each");
        int[][] corners = {{9999, 9999}, {9999, -9999}, {-9999, 9999}, {-9999, -9999}};
        for (int[] corner : corners) {
            wrecks("nothing run", oneLeg(0, 0), corner[0], corner[1], 3, -300, 199960002);
        }
        FooledNeedle x = new FooledNeedle();
        for (int leg = 0; leg < 40; leg++) {
            x.leg(3, 400, 0, 300, NONE, NONE);
        }
        // 300 ends at 2340 and 11772 miles, -300 the other way about: 12339 and 21771 are left.
        wrecks("all run, and off the other way", x, -9999, -9999, 3, -300, 12339 * 12339 + 21771 * 21771);
    }

    private static void countEmptyAndFull() {
        due.about("46, from empty to full");
        FooledNeedle x = new FooledNeedle();
        for (int what = 0; what <= 5; what++) {
            due.is("empty, what " + what, x.count(what), 0);
        }
        for (int leg = 0; leg < 40; leg++) {
            x.leg(0, 0, 0, 300, NONE, NONE);
        }
        for (int bar = 0; bar < 6; bar++) {
            x.bar(bar, 1);
            x.layBar(bar, bar % 2, 9, false);
        }
        for (int ball = 0; ball < 4; ball++) {
            x.ball(ball, 1);
            x.layBall(ball, 20);
        }
        for (int event = 0; event < 20; event++) {
            x.event(event, 999, event % 6, 1);
        }
        for (int note = 0; note < 24; note++) {
            x.note(note / 8, note % 8);
        }
        int[] full = {40, 7, 10, 20, 24, 12000};
        for (int what = 0; what <= 5; what++) {
            due.is("full, what " + what, x.count(what), full[what]);
        }
        due.is("what 6", x.count(6), Due.BAD);
        due.is("what -1", x.count(-1), Due.BAD);
        x.home();
        x.takeUp();
        int[] after = {0, 0, 10, 20, 24, 0};
        for (int what = 0; what <= 5; what++) {
            due.is("home and taken up, what " + what, x.count(what), after[what]);
        }
    }
}
