/** Promises 1 to 12. */
public final class WavesTest {
    private static final Due due = new Due();
    private static final int[] EDGES = {-1, 3200, Integer.MIN_VALUE, Integer.MAX_VALUE};

    public static void main(String[] args) {
        newObject();
        sine();
        way();
        partAndTold();
        error();
        errorAtAndTrueOf();
        steer();
        worst();
        twofold();
        due.end();
    }

    private static void newObject() {
        FooledNeedle x = new FooledNeedle();
        for (int compass = 0; compass < 3; compass++) {
            for (int part = 0; part < 6; part++) {
                due.is("new told", x.told(compass, part), 0);
            }
            due.is("new seen", x.seen(compass), 0);
            due.is("new gap", x.gap(compass), 32);
            due.is("new worst", x.worst(compass), 0);
        }
        for (int what = 0; what <= 5; what++) {
            due.is("new count " + what, x.count(what), 0);
        }
        due.is("new takeUp", x.takeUp(), 0);
        due.is("new home", x.home(), 0);
        due.is("new best", x.best(), 0);
        due.is("new bestCode(3)", x.bestCode(3), 0);
        due.is("new split", x.split(), Due.NONE);
        due.is("new bar", x.bar(5, 0), 0);
        due.is("new ball", x.ball(3, 0), 0);
        due.is("new event", x.event(19, 0, 0, 0), 0);
        due.is("new about", x.about(0, 0), Due.UNKNOWN);
        // Places have H 100, Z 0 at first: with B 60 noted at Z 0 and at Z 10, H 50, B is foretold there.
        x.part(0, 1, 60);
        x.place(1, 50, 10);
        x.note(0, 0);
        x.note(0, 1);
        due.is("new place", x.foretold(0, 7, 0, 1, false), 60);
    }

    private static void sine() {
        FooledNeedle x = new FooledNeedle();
        int[] quarter = {0, 195, 383, 556, 707, 831, 924, 981, 1000};
        for (int p = 0; p <= 8; p++) {
            due.is("sine of heading " + p, x.sine(100 * p, false), quarter[p]);
            due.is("sine of heading " + (16 - p), x.sine(100 * (16 - p), false), quarter[p]);
            due.is("sine of heading " + (16 + p), x.sine(100 * (16 + p), false), -quarter[p]);
            due.is("sine of heading " + (32 - p), x.sine(100 * (32 - p) % 3200, false), -quarter[p]);
        }
        for (int r = 0; r < 3200; r++) {
            FooledNeedle y = new FooledNeedle();
            due.is("cosine of " + r, y.sine(r, true), y.sine((r + 800) % 3200, false));
        }
        due.is("sine(150)", x.sine(150, false), 289);
        due.is("sine(50)", x.sine(50, false), 98);
        due.is("sine(1650): a half goes up", x.sine(1650, false), -97);
        due.is("sine(3101)", x.sine(3101, false), -193);
        due.is("sine(799)", x.sine(799, false), 1000);
        due.is("sine(3150, true)", x.sine(3150, true), 991);
        due.is("sine(2399, true)", x.sine(2399, true), -2);
        for (int r : EDGES) {
            due.is("sine of " + r, x.sine(r, false), Due.BAD);
            due.is("cosine of " + r, x.sine(r, true), Due.BAD);
        }
    }

    private static void way() {
        FooledNeedle x = new FooledNeedle();
        due.is("way(0, 0)", x.way(0, 0), 0);
        due.is("way(0, 1599)", x.way(0, 1599), 1599);
        due.is("way(0, 1600)", x.way(0, 1600), -1600);
        due.is("way(1600, 0)", x.way(1600, 0), -1600);
        due.is("way(0, 1601)", x.way(0, 1601), -1599);
        due.is("way(3199, 0)", x.way(3199, 0), 1);
        due.is("way(0, 3199)", x.way(0, 3199), -1);
        due.is("way(3199, 1598)", x.way(3199, 1598), 1599);
        due.is("way(100, 3000)", x.way(100, 3000), -300);
        for (int r : EDGES) {
            due.is("way from " + r, x.way(r, 0), Due.BAD);
            due.is("way to " + r, x.way(0, r), Due.BAD);
        }
    }

    private static void partAndTold() {
        FooledNeedle x = new FooledNeedle();
        for (int compass = 0; compass < 3; compass++) {
            for (int part = 0; part < 6; part++) {
                due.is("part first", x.part(compass, part, 999 - part - 10 * compass), 0);
            }
        }
        for (int compass = 0; compass < 3; compass++) {
            for (int part = 0; part < 6; part++) {
                due.is("told", x.told(compass, part), 999 - part - 10 * compass);
                due.is("part again", x.part(compass, part, -999), 999 - part - 10 * compass);
                due.is("part 1000", x.part(compass, part, 1000), Due.BAD);
                due.is("part -1000", x.part(compass, part, -1000), Due.BAD);
                due.is("told after bad ones", x.told(compass, part), -999);
            }
        }
        due.is("part of compass 3", x.part(3, 0, 5000), Due.UNKNOWN);
        due.is("part of compass -1", x.part(-1, 0, 0), Due.UNKNOWN);
        due.is("part 6", x.part(0, 6, 5000), Due.UNKNOWN);
        due.is("part -1", x.part(0, -1, 0), Due.UNKNOWN);
        due.is("part, greatest", x.part(0, 0, Integer.MAX_VALUE), Due.BAD);
        due.is("part, least", x.part(0, 0, Integer.MIN_VALUE), Due.BAD);
        due.is("told of compass 3", x.told(3, 0), Due.UNKNOWN);
        due.is("told of compass -1", x.told(-1, 0), Due.UNKNOWN);
        due.is("told 6", x.told(0, 6), Due.UNKNOWN);
        due.is("told -1", x.told(0, -1), Due.UNKNOWN);
    }

    private static void error() {
        FooledNeedle x = new FooledNeedle();
        int[][] oneByOne = {
            // part, heading, heel, error with 500 of this part alone
            {0, 13, 30, 500}, {1, 3, 0, 278}, {1, 24, 0, -500}, {2, 0, 0, 500}, {2, 3, 0, 416},
            {2, 16, 0, -500}, {3, 4, 0, 500}, {3, 12, 0, -500}, {3, 17, 0, 192}, {4, 0, 0, 500},
            {4, 8, 0, -500}, {4, 31, 0, 462}, {5, 0, 0, 0}, {5, 0, 10, 500}, {5, 16, 10, -500},
            {5, 0, -30, -1500}, {5, 3, 7, 291},
        };
        for (int[] row : oneByOne) {
            x.part(2, row[0], 500);
            due.is("error of part " + row[0] + " at " + row[1], x.error(2, row[1], row[2]), row[3]);
            x.part(2, row[0], 0);
        }
        x.part(0, 5, 1);
        due.is("a half goes up", x.error(0, 0, 5), 1);
        due.is("less a half goes up to 0", x.error(0, 0, -5), 0);
        due.is("less six tenths", x.error(0, 0, -6), -1);
        // 510 * 707 is 360570; 70.7 less, cut to 70 less, leaves 360500, which goes up.
        x.part(0, 1, 510);
        due.is("heeling cut towards 0", x.error(0, 4, -1), 361);
        x.part(0, 0, -361);
        due.is("A outside of what is rounded", x.error(0, 4, -1), 0);
        due.is("other compass", x.error(1, 4, -1), 0);
        for (int g : new int[] {-31, 31, Integer.MIN_VALUE, Integer.MAX_VALUE}) {
            due.is("heel " + g, x.error(0, 0, g), Due.BAD);
        }
        due.is("compass 3", x.error(3, 0, 31), Due.UNKNOWN);
        due.is("compass -1", x.error(-1, 0, 0), Due.UNKNOWN);
        due.is("heading 32", x.error(0, 32, 31), Due.UNKNOWN);
        due.is("heading -1", x.error(0, -1, 0), Due.UNKNOWN);
    }

    private static void errorAtAndTrueOf() {
        FooledNeedle x = new FooledNeedle();
        x.part(0, 1, 100);
        due.is("errorAt(800)", x.errorAt(0, 800, 0), 100);
        due.is("errorAt(850)", x.errorAt(0, 850, 0), 99);
        due.is("errorAt(25)", x.errorAt(0, 25, 0), 5);
        due.is("errorAt(3110): ahead of north", x.errorAt(0, 3110, 0), -17);
        due.is("errorAt(3199): ahead of north", x.errorAt(0, 3199, 0), 0);
        due.is("trueOf(800)", x.trueOf(0, 800, 0), 900);
        due.is("trueOf(2400)", x.trueOf(0, 2400, 0), 2300);
        x.part(0, 0, -50);
        due.is("trueOf(0): back over north", x.trueOf(0, 0, 0), 3150);
        x.part(0, 0, 999);
        due.is("trueOf(3199): on over north", x.trueOf(0, 3199, 0), 998);
        x.part(1, 5, 300);
        due.is("errorAt, heeled", x.errorAt(1, 0, 20), 600);
        due.is("errorAt, heeled, between", x.errorAt(1, 50, 20), 595);
        due.is("trueOf, heeled", x.trueOf(1, 0, -20), 2600);
        x.part(1, 0, 999);
        x.part(1, 2, 999);
        x.part(1, 4, 999);
        x.part(1, 5, 999);
        due.is("trueOf, more than once round", x.trueOf(1, 3199, 30), (3199 + 5992) % 3200);
        for (int r : EDGES) {
            due.is("errorAt of " + r, x.errorAt(0, r, 0), Due.BAD);
            due.is("trueOf of " + r, x.trueOf(0, r, 0), Due.BAD);
        }
        for (int g : new int[] {-31, 31}) {
            due.is("errorAt heeled " + g, x.errorAt(0, 0, g), Due.BAD);
            due.is("trueOf heeled " + g, x.trueOf(0, 0, g), Due.BAD);
        }
        for (int compass : new int[] {-1, 3}) {
            due.is("errorAt by compass " + compass, x.errorAt(compass, 3200, 31), Due.UNKNOWN);
            due.is("trueOf by compass " + compass, x.trueOf(compass, 3200, 31), Due.UNKNOWN);
        }
    }

    private static void steer() {
        FooledNeedle x = new FooledNeedle();
        due.is("steer with no error", x.steer(0, 1234, 0), 1234);
        x.part(0, 0, 100);
        due.is("steer with A", x.steer(0, 0, 0), 3100);
        int[][] cards = {{-5, 200, -150, 60, 7, 300}, {0, 999, 999, 999, 0, 0}, {999, -999, 999, -999, 999, -999}};
        for (int[] card : cards) {
            PlainNeedle y = new PlainNeedle();
            for (int part = 0; part < 6; part++) {
                x.part(1, part, card[part]);
                y.part(1, part, card[part]);
            }
            for (int t = 0; t < 3200; t += 317) {
                for (int g = -30; g <= 30; g += 20) {
                    due.is("steer " + t + " heeled " + g, x.steer(1, t, g), plainSteer(y, 1, t, g));
                }
            }
        }
        for (int t : EDGES) {
            due.is("steer to " + t, x.steer(0, t, 0), Due.BAD);
            due.is("steer by compass 3 to " + t, x.steer(3, t, 31), Due.UNKNOWN);
        }
        due.is("steer heeled 31", x.steer(0, 0, 31), Due.BAD);
        due.is("steer heeled -31", x.steer(0, 0, -31), Due.BAD);
        due.is("steer by compass -1", x.steer(-1, 0, 0), Due.UNKNOWN);
    }

    private static int plainSteer(PlainNeedle y, int compass, int t, int g) {
        for (int off = 0; off <= 1600; off++) {
            for (int r = 0; r < 3200; r++) {
                int far = Math.abs(y.trueOf(compass, r, g) - t);
                if (Math.min(far, 3200 - far) == off) {
                    return r;
                }
            }
        }
        return -1;
    }

    private static void worst() {
        FooledNeedle x = new FooledNeedle();
        due.is("worst of nothing", x.worst(0), 0);
        due.is("worstAt of nothing", x.worstAt(0), 0);
        x.part(0, 1, 100);
        due.is("worst of B", x.worst(0), 100);
        due.is("worstAt of B: the first of two", x.worstAt(0), 8);
        x.part(0, 0, -1);
        due.is("worst of B and A", x.worst(0), 101);
        due.is("worstAt of B and A", x.worstAt(0), 24);
        x.part(0, 5, 999);
        due.is("worst is upright", x.worst(0), 101);
        x.part(2, 2, 100);
        x.part(2, 5, 999);
        due.is("worst is upright, north", x.worst(2), 100);
        due.is("worstAt is upright, north", x.worstAt(2), 0);
        x.part(1, 3, -40);
        due.is("worst of D", x.worst(1), 40);
        due.is("worstAt of D", x.worstAt(1), 4);
        for (int compass : new int[] {-1, 3}) {
            due.is("worst of compass " + compass, x.worst(compass), Due.UNKNOWN);
            due.is("worstAt of compass " + compass, x.worstAt(compass), Due.UNKNOWN);
        }
    }

    private static void twofold() {
        FooledNeedle x = new FooledNeedle();
        due.is("twofold of nothing", x.twofold(2), 0);
        int[][] cards = {{0, 100, 0, 0, 0, 0}, {-5, 200, -150, 60, 7, 300}, {0, 999, 999, 999, 0, 0}, {3, 0, 0, 0, 700, 9},
            {0, -258, 0, 0, 0, 0}};
        for (int[] card : cards) {
            PlainNeedle y = new PlainNeedle();
            for (int part = 0; part < 6; part++) {
                x.part(2, part, card[part]);
                y.part(2, part, card[part]);
            }
            int many = 0;
            for (int t = 0; t < 3200; t += 100) {
                int hits = 0;
                for (int r = 0; r < 3200; r++) {
                    hits += y.trueOf(2, r, 0) == t ? 1 : 0;
                }
                many += hits > 1 ? 1 : 0;
            }
            due.is("twofold", x.twofold(2), many);
            due.holds("twofold is met", many > 0);
        }
        // The last card, B -258 alone: the readings of north are 0 and 3199.
        due.is("trueOf(0)", x.trueOf(2, 0, 0), 0);
        due.is("trueOf(3199)", x.trueOf(2, 3199, 0), 0);
        due.is("twofold with north in it", x.twofold(2), 7);
        due.is("twofold of compass 3", x.twofold(3), Due.UNKNOWN);
        due.is("twofold of compass -1", x.twofold(-1), Due.UNKNOWN);
    }
}
