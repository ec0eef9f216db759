import java.util.List;

/** The boundary cases of the terms and of promises 1 to 12, sentence by sentence; RefusalsTest has what is refused. */
public final class WavesEdgesTest {
    private static final Due due = new Due();
    private static final int NONE = Due.NONE;
    private static final int[] SIN = {
        0, 195, 383, 556, 707, 831, 924, 981, 1000, 981, 924, 831, 707, 556, 383, 195,
        0, -195, -383, -556, -707, -831, -924, -981, -1000, -981, -924, -831, -707, -556, -383, -195
    };

    public static void main(String[] args) {
        newCompasses();
        newStore();
        newPlaces();
        newVoyage();
        objectsShareNothing();
        sineAtHeadings();
        sineBetween();
        way();
        partEnds();
        errorOfOnePart();
        errorRounded();
        errorHeeled();
        errorAt();
        trueOf();
        steerNearest();
        steerOfLikeOnes();
        steerOverNorth();
        worst();
        twofold();
        due.end();
    }

    private static FooledNeedle card(int compass, int... parts) {
        FooledNeedle x = new FooledNeedle();
        for (int part = 0; part < parts.length; part++) {
            x.part(compass, part, parts[part]);
        }
        return x;
    }

    private static void newCompasses() {
        due.about("1, compasses: 0 at first, nothing was seen");
        FooledNeedle x = new FooledNeedle();
        for (int compass = 0; compass < 3; compass++) {
            for (int part = 0; part < 6; part++) {
                due.is("told " + compass + ", " + part, x.told(compass, part), 0);
            }
            due.is("seen " + compass, x.seen(compass), 0);
            due.is("gap " + compass, x.gap(compass), 32);
            due.is("filled " + compass, x.filled(compass, 0), Due.STATE);
            due.is("apart " + compass, x.apart(compass), Due.STATE);
            for (int heading = 0; heading < 32; heading++) {
                due.is("see " + compass + ", " + heading, x.see(compass, heading, 1), NONE);
            }
        }
    }

    private static void newStore() {
        due.about("1, magnets: 0, it is not in the store (at first)");
        FooledNeedle x = new FooledNeedle();
        for (int bar = 0; bar < 6; bar++) {
            due.is("layBar " + bar, x.layBar(bar, 0, 2, false), Due.STATE);
            due.is("bar " + bar, x.bar(bar, 0), 0);
        }
        for (int ball = 0; ball < 4; ball++) {
            due.is("layBall " + ball, x.layBall(ball, 20), Due.STATE);
            due.is("ball " + ball, x.ball(ball, 0), 0);
        }
        for (int part = 0; part < 6; part++) {
            due.is("leftOf " + part, x.leftOf(part), 0);
        }
        for (int what = 0; what < 4; what++) {
            due.is("bestCode " + what, x.bestCode(what), 0);
        }
        due.is("left", x.left(31), 0);
        due.is("best", x.best(), 0);
        due.is("layBest", x.layBest(), 0);
        due.is("takeUp", x.takeUp(), 0);
    }

    /** B H is 6000 less 1100 Z by the notes, so that B is 60 at H 100 and Z 0, and nowhere near it. */
    private static void newPlaces() {
        due.about("1, places: H 100, Z 0 at first");
        for (int place = 0; place < 8; place++) {
            FooledNeedle x = new FooledNeedle();
            int one = (place + 1) % 8;
            int two = (place + 2) % 8;
            due.is("no note", x.foretold(0, place, one, two, false), Due.STATE);
            x.place(two, 50, 10);
            due.is("no note, Z unlike", x.foretold(0, place, one, two, false), Due.STATE);
            x.part(0, 1, 60);
            x.note(0, one);
            x.part(0, 1, -100);
            x.note(0, two);
            due.is("foretold at " + place, x.foretold(0, place, one, two, false), 60);
        }
    }

    private static void newVoyage() {
        due.about("1, voyages: no event, no leg");
        FooledNeedle x = new FooledNeedle();
        for (int what = 0; what <= 5; what++) {
            due.is("count " + what, x.count(what), 0);
        }
        for (int part = 0; part < 6; part++) {
            due.is("asOf " + part, x.asOf(part, 999), 0);
        }
        for (int event = 0; event < 20; event++) {
            due.is("event " + event, x.event(event, 0, 0, 0), 0);
        }
        due.is("about", x.about(0, 0), Due.UNKNOWN);
        due.is("worked", x.worked(0, 0, 0, false), 0);
        due.is("home", x.home(), 0);
        due.is("leg", x.leg(0, 0, 0, 0, NONE, NONE), 0);
    }

    private static void objectsShareNothing() {
        due.about("1, all as at first, whatever another object was told");
        List<Integer> before = Whole.of(new FooledNeedle());
        FooledNeedle x = card(0, 1, 2, 3, 4, 5, 6);
        x.see(0, 0, 1);
        x.bar(0, 8);
        x.ball(0, 1);
        x.layBar(0, 0, 2, false);
        x.layBall(0, 2);
        x.place(0, 1, 1);
        x.note(0, 0);
        x.event(0, 0, 0, 1);
        x.leg(0, 0, 0, 1, 0, 0);
        due.holds("a new one", before.equals(Whole.of(new FooledNeedle())));
        due.is("the other's leg", x.count(0), 1);
    }

    private static void sineAtHeadings() {
        due.about("2, SIN, all taken round 32; COS p is SIN p + 8");
        FooledNeedle x = new FooledNeedle();
        for (int p = 0; p < 32; p++) {
            due.is("sine of heading " + p, x.sine(100 * p, false), SIN[p]);
            due.is("cosine of heading " + p, x.sine(100 * p, true), SIN[(p + 8) % 32]);
        }
    }

    private static void sineBetween() {
        due.about("2, BETWEEN, h + 1 (round), ROUNDED");
        FooledNeedle x = new FooledNeedle();
        int[][] sines = {
            // 195 by 100; 195 half; then 195 and 188 k.
            {1, 2}, {50, 98}, {99, 193}, {101, 197}, {199, 381}, {799, 1000}, {801, 1000}, {850, 991},
            {1599, 2}, {1601, -2}, {1650, -97}, {1549, 99}, {2399, -1000}, {2401, -1000}, {2450, -990},
            // From heading 31 on to 0: -195 by 100 - k.
            {3100, -195}, {3101, -193}, {3150, -97}, {3199, -2}, {0, 0},
        };
        for (int[] row : sines) {
            due.is("sine " + row[0], x.sine(row[0], false), row[1]);
            due.is("cosine, 800 less", x.sine((row[0] + 2400) % 3200, true), row[1]);
        }
        due.is("cosine 2399, the last one short of the round", x.sine(2399, true), -2);
        due.is("cosine 2400, just round", x.sine(2400, true), 0);
        due.is("cosine 3199", x.sine(3199, true), 1000);
    }

    private static void way() {
        due.about("3, from -1600 to 1599");
        FooledNeedle x = new FooledNeedle();
        int[][] ways = {
            {0, 0, 0}, {3199, 3199, 0}, {0, 1, 1}, {0, 1599, 1599}, {0, 1600, -1600}, {0, 1601, -1599}, {0, 3199, -1},
            {3199, 0, 1}, {1, 0, -1}, {1599, 0, -1599}, {1600, 0, -1600}, {1601, 0, 1599}, {3199, 1598, 1599},
            {3199, 1599, -1600}, {3199, 1600, -1599}, {1599, 3199, -1600}, {1600, 3199, 1599}, {3100, 100, 200}, {100, 3100, -200},
        };
        for (int[] row : ways) {
            due.is("way " + row[0] + ", " + row[1], x.way(row[0], row[1]), row[2]);
        }
    }

    private static void partEnds() {
        due.about("4 and 5, parts of -999 .. 999, each its own");
        for (int compass = 0; compass < 3; compass++) {
            for (int part = 0; part < 6; part++) {
                FooledNeedle x = new FooledNeedle();
                due.is("999", x.part(compass, part, 999), 0);
                due.is("-999", x.part(compass, part, -999), 999);
                due.is("1000", x.part(compass, part, 1000), Due.BAD);
                due.is("-1000", x.part(compass, part, -1000), Due.BAD);
                due.is("told", x.told(compass, part), -999);
                for (int other = 0; other < 18; other++) {
                    if (other != 6 * compass + part) {
                        due.is("told of another", x.told(other / 6, other % 6), 0);
                    }
                }
            }
        }
    }

    private static void errorOfOnePart() {
        due.about("6, each part with its wave, SIN and COS of 2 h round 32");
        for (int h = 0; h < 32; h++) {
            int[] waves = {1000, SIN[h], SIN[(h + 8) % 32], SIN[2 * h % 32], SIN[(2 * h + 8) % 32], SIN[(h + 8) % 32]};
            for (int part = 1; part < 6; part++) {
                FooledNeedle x = new FooledNeedle();
                x.part(2, part, 999);
                // With g 10 the last part counts just as C does; 999 by 1000 is one less from 500 on.
                int size = Math.abs(waves[part]);
                int error = size > 500 ? size - 1 : size;
                due.is("part " + part + " at " + h, x.error(2, h, part == 5 ? 10 : 0), waves[part] < 0 ? -error : error);
            }
            due.is("A at " + h, card(0, -999, 0, 0, 0, 0, 999).error(0, h, 0), -999);
        }
    }

    private static void errorRounded() {
        due.about("6, together ROUNDED by 1000, a half goes up");
        // J 1 at north heeled by g is 100 g thousandths.
        FooledNeedle x = card(0, 0, 0, 0, 0, 0, 1);
        int[][] halves = {{4, 0}, {5, 1}, {14, 1}, {15, 2}, {-4, 0}, {-5, 0}, {-6, -1}, {-15, -1}, {-16, -2}, {30, 3}, {-30, -3}};
        for (int[] row : halves) {
            due.is("heeled " + row[0], x.error(0, 0, row[0]), row[1]);
        }
        due.is("B 1 and C 1 at 4: 1414, not 1 and 1", card(0, 0, 1, 1).error(0, 4, 0), 1);
        due.is("D 1 and E 1 at 2: 1414, not 1 and 1", card(0, 0, 0, 0, 1, 1).error(0, 2, 0), 1);
        due.is("B 1 and D 1 at 2: 383 and 707", card(0, 0, 1, 0, 1).error(0, 2, 0), 1);
        due.is("the greatest", card(0, 999, 0, 999, 0, 999, 999).error(0, 0, 30), 999 + 999 + 999 + 2997);
        due.is("the least", card(0, -999, 0, -999, 0, -999, 999).error(0, 0, -30), -999 - 999 - 999 - 2997);
    }

    private static void errorHeeled() {
        due.about("6, J COS h g by 10 cut towards 0");
        // 647 * 707 is 457429: with 70.7 cut to 70 it is 499 thousandths above 457, with 71 it would be a half.
        due.is("70.7 is cut to 70", card(0, 0, 647, 0, 0, 0, 1).error(0, 4, 1), 457);
        // 510 * 707 is 360570: with -70.7 cut to -70 it is just 360 and a half.
        due.is("-70.7 is cut to -70", card(0, 0, 510, 0, 0, 0, 1).error(0, 4, -1), 361);
        due.is("J below 0", card(0, 0, 510, 0, 0, 0, -1).error(0, 4, 1), 361);
        due.is("COS below 0", card(0, 0, -490, 0, 0, 0, 1).error(0, 12, 1), -346);
        FooledNeedle x = card(1, 0, 0, 0, 0, 0, 999);
        due.is("0: upright", x.error(1, 0, 0), 0);
        due.is("30 at north", x.error(1, 0, 30), 2997);
        due.is("-30 at north", x.error(1, 0, -30), -2997);
        due.is("30 at south", x.error(1, 16, 30), -2997);
        due.is("30 at east", x.error(1, 8, 30), 0);
        due.is("30 at 31", x.error(1, 31, 30), 2940);
    }

    private static void errorAt() {
        due.about("7, at a READING: BETWEEN");
        // B 100: -19.5 at 31, which is -19; 0 at 0; 19.5 at 1, which is 20.
        FooledNeedle x = card(0, 0, 100);
        int[][] rows = {
            {0, 0}, {2, 0}, {3, 1}, {99, 20}, {100, 20}, {3100, -19}, {3101, -19}, {3103, -18}, {3150, -9}, {3197, -1}, {3198, 0},
            {3199, 0}, {800, 100}, {850, 99}, {2450, -99}, {2400, -100},
        };
        for (int[] row : rows) {
            due.is("errorAt " + row[0], x.errorAt(0, row[0], 0), row[1]);
        }
        // 1 at north, 0.98 at 1, which is 1; A of -1 makes both 0.
        due.is("ROUNDED at both first", card(0, -1, 0, 1).errorAt(0, 50, 0), 0);
        // 300 heeled by 30: 900 at 0, 882.9 at 31 and at 1.
        FooledNeedle j = card(2, 0, 0, 0, 0, 0, 300);
        due.is("heeled, over north", j.errorAt(2, 3150, 30), 892);
        due.is("heeled the other way", j.errorAt(2, 3150, -30), -891);
        due.is("upright", j.errorAt(2, 3150, 0), 0);
    }

    private static void trueOf() {
        due.about("8, r and its ERROR, round");
        due.is("3199 and 1", card(0, 1).trueOf(0, 3199, 0), 0);
        due.is("3198 and 1", card(0, 1).trueOf(0, 3198, 0), 3199);
        due.is("0 less 1", card(0, -1).trueOf(0, 0, 0), 3199);
        due.is("1 less 1", card(0, -1).trueOf(0, 1, 0), 0);
        due.is("0 and 999", card(0, 999).trueOf(0, 0, 0), 999);
        // The greatest ERROR is 5994 at 0 and 5844 at 31.
        FooledNeedle most = card(0, 999, 0, 999, 0, 999, 999);
        due.is("twice round", most.trueOf(0, 0, 30), 5994 - 3200);
        due.is("once more", most.trueOf(0, 3199, 30), 3199 + 5992 - 6400);
        FooledNeedle least = card(0, -999, 0, -999, 0, -999, 999);
        due.is("twice back", least.trueOf(0, 0, -30), 6400 - 5994);
        // -1600 and 1600 lie at the same place.
        FooledNeedle half = card(1, 0, 0, 800, 0, 800);
        due.is("half the round", half.trueOf(1, 0, 0), 1600);
        FooledNeedle back = card(1, 0, 0, -800, 0, -800);
        due.is("half the round back", back.trueOf(1, 0, 0), 1600);
    }

    private static void steerNearest() {
        due.about("9, the READING whose TRUE is nearest");
        FooledNeedle x = new FooledNeedle();
        due.is("no error, 0", x.steer(0, 0, 0), 0);
        due.is("no error, 3199", x.steer(0, 3199, 0), 3199);
        due.is("A 1", card(0, 1).steer(0, 0, 0), 3199);
        due.is("A -1", card(0, -1).steer(0, 3199, 0), 0);
        due.is("A 999", card(0, 999).steer(0, 0, 0), 2201);
        FooledNeedle j = card(2, 0, 0, 0, 0, 0, 10);
        due.is("upright", j.steer(2, 0, 0), 0);
        due.is("heeled", j.steer(2, 0, 30), 3170);
        due.is("heeled the other way", j.steer(2, 0, -30), 30);
    }

    private static void steerOfLikeOnes() {
        due.about("9, of like ones the least");
        FooledNeedle x = card(0, 0, 100);
        due.is("TRUE of 2", x.trueOf(0, 2, 0), 2);
        due.is("TRUE of 3", x.trueOf(0, 3, 0), 4);
        due.is("3 lies between", x.steer(0, 3, 0), 2);
        // B -222: 3025 and 3026 are both just 3100.
        FooledNeedle y = card(0, 0, -222);
        due.is("TRUE of 3025", y.trueOf(0, 3025, 0), 3100);
        due.is("TRUE of 3026", y.trueOf(0, 3026, 0), 3100);
        due.is("both are just it", y.steer(0, 3100, 0), 3025);
        // B -600: 0, 1, 2, 494 .. 497, 2702 .. 2705, 3198 and 3199 are just north.
        FooledNeedle z = card(1, 0, -600);
        due.is("TRUE of 3198", z.trueOf(1, 3198, 0), 0);
        due.is("TRUE of 494", z.trueOf(1, 494, 0), 0);
        due.is("many are just it", z.steer(1, 0, 0), 0);
    }

    private static void steerOverNorth() {
        due.about("9, THE WAY least in size, over the end of the round");
        // A -3 and B 100: 2 is 3199, 3 is 1, and none is 0.
        FooledNeedle x = card(0, -3, 100);
        due.is("TRUE of 2", x.trueOf(0, 2, 0), 3199);
        due.is("TRUE of 3", x.trueOf(0, 3, 0), 1);
        due.is("north, from both sides", x.steer(0, 0, 0), 2);
        // B 300: 3199 is 3198, 0 is 0, and none is 3199.
        FooledNeedle y = card(0, 0, 300);
        due.is("TRUE of 3199", y.trueOf(0, 3199, 0), 3198);
        due.is("TRUE of 0", y.trueOf(0, 0, 0), 0);
        due.is("3199, the least is behind the end", y.steer(0, 3199, 0), 0);
    }

    private static void worst() {
        due.about("10 and 11, the greatest size, the first HEADING with it, upright");
        due.is("no error", new FooledNeedle().worst(0), 0);
        due.is("no error, first", new FooledNeedle().worstAt(0), 0);
        due.is("all alike", card(0, -7).worst(0), 7);
        due.is("all alike, first", card(0, -7).worstAt(0), 0);
        due.is("like sizes, below 0 first", card(0, 0, -100).worst(0), 100);
        due.is("like sizes, the first", card(0, 0, -100).worstAt(0), 8);
        // B -195, C 981 and A 1: 1001 at 31, -999 at 15, less everywhere else.
        FooledNeedle x = card(1, 1, -195, 981);
        due.is("at the last heading", x.worst(1), 1001);
        due.is("the last heading", x.worstAt(1), 31);
        FooledNeedle y = card(1, -1, -195, 981);
        due.is("below 0", y.worst(1), 1001);
        due.is("where it is below 0", y.worstAt(1), 15);
        FooledNeedle j = card(2, 0, 0, 0, 0, 0, 999);
        due.is("upright", j.worst(2), 0);
        due.is("upright, first", j.worstAt(2), 0);
        // 9.81 at 7 is 10 too; heeled by 1 it would be 100 at north.
        j.part(2, 1, 10);
        due.is("B 10, upright", j.worst(2), 10);
        due.is("B 10, upright, first", j.worstAt(2), 7);
    }

    private static void twofold() {
        due.about("12, more than one READING");
        due.is("one each", new FooledNeedle().twofold(0), 0);
        due.is("one each, turned round", card(0, 999).twofold(0), 0);
        // B -222: 3100 alone, by 3025 and 3026. B -600: north alone, by 13.
        due.is("two, at the last heading", card(0, 0, -222).twofold(0), 1);
        due.is("thirteen, at the first", card(0, 0, -600).twofold(0), 1);
        // A 68, B -260, C -68: north by 0 and 3199, and 3100 by 2989 and 2990.
        FooledNeedle north = card(0, 68, -260, -68);
        due.is("TRUE of 0", north.trueOf(0, 0, 0), 0);
        due.is("TRUE of 3199", north.trueOf(0, 3199, 0), 0);
        due.is("the first and the last reading", north.twofold(0), 2);
        due.is("asked again", north.twofold(0), 2);
        due.is("another compass", north.twofold(1), 0);
        // B 225: 1700 alone, by two.
        due.is("two, at 17", card(2, 0, 225).twofold(2), 1);
        due.is("J does not matter, upright", card(0, 0, 0, 0, 0, 0, 999).twofold(0), 0);
    }
}
