/** The boundary cases of part 2 and of promises 13 to 19, sentence by sentence; RefusalsTest has what is refused. */
public final class SwingsEdgesTest {
    private static final Due due = new Due();
    private static final int NONE = Due.NONE;

    public static void main(String[] args) {
        seeEnds();
        forget();
        seenFromNoneToAll();
        filledByOne();
        filledByTwo();
        filledRounded();
        filledByTheNearest();
        filledOverNorth();
        gap();
        apartWithThreeAndFour();
        apartRounded();
        apartJustShortOfAHalf();
        apartAtMost();
        apartGreatestOfWhatWasSeen();
        apartLeavesJ();
        residue();
        due.end();
    }

    /** Pairs of a heading and what was seen there. */
    private static FooledNeedle swing(int compass, int... pairs) {
        FooledNeedle x = new FooledNeedle();
        for (int i = 0; i + 1 < pairs.length; i += 2) {
            x.see(compass, pairs[i], pairs[i + 1]);
        }
        return x;
    }

    private static FooledNeedle allAround(int compass, int error) {
        FooledNeedle x = new FooledNeedle();
        for (int heading = 0; heading < 32; heading++) {
            x.see(compass, heading, error);
        }
        return x;
    }

    private static void seeEnds() {
        due.about("13, -600 .. 600; NONE: nothing");
        for (int compass = 0; compass < 3; compass++) {
            FooledNeedle x = new FooledNeedle();
            for (int heading = 0; heading < 32; heading++) {
                due.is("first at " + heading, x.see(compass, heading, -600), NONE);
                due.is("again", x.see(compass, heading, 600), -600);
                due.is("601", x.see(compass, heading, 601), Due.BAD);
                due.is("-601", x.see(compass, heading, -601), Due.BAD);
                due.is("filled", x.filled(compass, heading), 600);
            }
        }
        FooledNeedle x = swing(1, 4, 0);
        due.is("0 was seen, which is not nothing", x.see(1, 4, 0), 0);
        due.is("NONE can't be seen", x.see(1, 4, NONE), Due.BAD);
        due.is("one seen", x.seen(1), 1);
    }

    private static void forget() {
        due.about("14, nothing is seen there any more; STATE: nothing was");
        FooledNeedle x = swing(2, 0, 0, 31, 5);
        due.is("at 1", x.forget(2, 1), Due.STATE);
        due.is("of another compass", x.forget(1, 0), Due.STATE);
        due.is("0 was seen", x.forget(2, 0), 1);
        due.is("no more", x.forget(2, 0), Due.STATE);
        due.is("residue", x.residue(2, 0), NONE);
        due.is("filled by the other alone", x.filled(2, 0), 5);
        due.is("the last one", x.forget(2, 31), 1);
        due.is("none is left", x.seen(2), 0);
        due.is("nothing at all", x.filled(2, 0), Due.STATE);
        due.is("gap", x.gap(2), 32);
        due.is("seen anew", x.see(2, 31, 1), NONE);
    }

    private static void seenFromNoneToAll() {
        due.about("15, how many: 0 to 32");
        FooledNeedle x = new FooledNeedle();
        due.is("none", x.seen(0), 0);
        for (int heading = 0; heading < 32; heading++) {
            x.see(0, heading, heading);
            x.see(0, heading, 0);
            due.is("up to " + heading, x.seen(0), heading + 1);
        }
        due.is("another", x.seen(1), 0);
        for (int heading = 0; heading < 32; heading++) {
            x.forget(0, heading);
            x.forget(0, heading);
            due.is("but for those up to " + heading, x.seen(0), 31 - heading);
        }
    }

    private static void filledByOne() {
        due.about("16, (seen at one alone: that)");
        for (int at = 0; at < 32; at += 31) {
            FooledNeedle x = swing(0, at, -599);
            for (int heading = 0; heading < 32; heading++) {
                due.is("seen at " + at + ", filled at " + heading, x.filled(0, heading), -599);
            }
            due.is("another saw nothing", x.filled(1, at), Due.STATE);
        }
    }

    private static void filledByTwo() {
        due.about("16, the one behind v times and the one ahead u times");
        FooledNeedle x = swing(0, 0, 0, 1, 310);
        // Behind 1 it goes back to 0 over 31 steps: 310 is 10 times 31.
        for (int heading = 1; heading < 32; heading++) {
            due.is("filled at " + heading, x.filled(0, heading), 10 * (32 - heading));
        }
        due.is("filled at 0", x.filled(0, 0), 0);
        FooledNeedle y = swing(0, 0, 310, 31, 0);
        for (int heading = 0; heading < 32; heading++) {
            due.is("the other way about, at " + heading, y.filled(0, heading), 310 - 10 * heading);
        }
        FooledNeedle z = swing(0, 0, 160, 16, -160);
        due.is("half way round", z.filled(0, 8), 0);
        due.is("half way round on the other side", z.filled(0, 24), 0);
        due.is("one step", z.filled(0, 1), 140);
        due.is("one step back", z.filled(0, 31), 140);
    }

    private static void filledRounded() {
        due.about("16, together ROUNDED by u and v");
        due.is("half of 1", swing(0, 4, 0, 6, 1).filled(0, 5), 1);
        due.is("half of -1", swing(0, 4, 0, 6, -1).filled(0, 5), 0);
        due.is("half of -3", swing(0, 4, -1, 6, -2).filled(0, 5), -1);
        due.is("half of 1199", swing(0, 4, 600, 6, 599).filled(0, 5), 600);
        due.is("half of -1199", swing(0, 4, -600, 6, -599).filled(0, 5), -599);
        // By 4: 1, 2, 3 quarters.
        FooledNeedle x = swing(0, 4, 0, 8, 1);
        due.is("a quarter", x.filled(0, 5), 0);
        due.is("two quarters", x.filled(0, 6), 1);
        due.is("three quarters", x.filled(0, 7), 1);
        FooledNeedle y = swing(0, 4, 0, 8, -1);
        due.is("less a quarter", y.filled(0, 5), 0);
        due.is("less two quarters", y.filled(0, 6), 0);
        due.is("less three quarters", y.filled(0, 7), -1);
        due.is("from end to end", swing(0, 4, -600, 6, 600).filled(0, 5), 0);
    }

    private static void filledByTheNearest() {
        due.about("16, what was seen; else the nearest HEADINGS");
        FooledNeedle x = swing(0, 2, 600, 10, 100, 14, 200, 20, -600);
        due.is("seen", x.filled(0, 14), 200);
        due.is("between the nearest", x.filled(0, 12), 150);
        due.is("next to one", x.filled(0, 11), 125);
        due.is("next to the other", x.filled(0, 13), 175);
        x.see(0, 12, -600);
        due.is("seen there then", x.filled(0, 12), -600);
        due.is("nearer then", x.filled(0, 11), -250);
        x.forget(0, 12);
        due.is("forgotten again", x.filled(0, 11), 125);
    }

    private static void filledOverNorth() {
        due.about("16, (going round)");
        FooledNeedle x = swing(0, 30, 0, 2, 40, 16, 600);
        due.is("at 31", x.filled(0, 31), 10);
        due.is("at 0", x.filled(0, 0), 20);
        due.is("at 1", x.filled(0, 1), 30);
        FooledNeedle y = swing(0, 31, 100, 1, 300);
        due.is("0 between 31 and 1", y.filled(0, 0), 200);
        FooledNeedle z = swing(0, 30, 100, 0, 300);
        due.is("31 between 30 and 0", z.filled(0, 31), 200);
    }

    private static void gap() {
        due.about("17, the longest row (round); 32: nothing at all");
        due.is("nothing at all", new FooledNeedle().gap(0), 32);
        due.is("at 0 alone", swing(0, 0, 1).gap(0), 31);
        due.is("at 31 alone", swing(0, 31, 1).gap(0), 31);
        due.is("at 15 alone", swing(0, 15, 0).gap(0), 31);
        due.is("at 0 and 31", swing(0, 0, 1, 31, 1).gap(0), 30);
        due.is("at 0 and 16", swing(0, 0, 1, 16, 1).gap(0), 15);
        due.is("at 10 and 20: over north", swing(0, 10, 1, 20, 1).gap(0), 21);
        due.is("at 5 and 26: not over north", swing(0, 5, 1, 26, 1).gap(0), 20);
        due.is("all seen", allAround(2, 0).gap(2), 0);
        for (int heading = 0; heading < 32; heading++) {
            FooledNeedle x = allAround(2, 0);
            x.forget(2, heading);
            due.is("all but " + heading, x.gap(2), 1);
            x.forget(2, (heading + 1) % 32);
            due.is("and the next", x.gap(2), 2);
            x.forget(2, (heading + 16) % 32);
            due.is("and one far off", x.gap(2), 2);
        }
    }

    private static void apartWithThreeAndFour() {
        due.about("18, STATE: fewer than 4 HEADINGS were seen");
        FooledNeedle x = new FooledNeedle();
        x.part(1, 3, 9);
        due.is("none", x.apart(1), Due.STATE);
        for (int heading = 0; heading < 3; heading++) {
            x.see(1, heading, 100);
            due.is((heading + 1) + " seen", x.apart(1), Due.STATE);
        }
        due.is("A as it was", x.told(1, 0), 0);
        due.is("D as it was", x.told(1, 3), 9);
        x.see(1, 3, 100);
        due.is("4 seen", x.apart(1), 0);
        due.is("A", x.told(1, 0), 100);
        due.is("D", x.told(1, 3), 0);
        x.forget(1, 3);
        due.is("3 seen again", x.apart(1), Due.STATE);
        x.see(1, 2, 200);
        due.is("3 seen, one anew", x.apart(1), Due.STATE);
        due.is("all seen", allAround(0, -600).apart(0), 0);
    }

    /** Seen everywhere, 0 but at one heading: A is a 32nd of it, the others are their waves there by 16000. */
    private static FooledNeedle seenOnlyAt(int heading, int error) {
        FooledNeedle x = allAround(0, 0);
        x.see(0, heading, error);
        x.apart(0);
        return x;
    }

    private static void apartRounded() {
        due.about("18, ROUNDED by 32, by 16000; COS, SIN 2 h, COS 2 h round");
        due.is("A of 15", seenOnlyAt(5, 15).told(0, 0), 0);
        due.is("A of 16", seenOnlyAt(5, 16).told(0, 0), 1);
        due.is("A of -16", seenOnlyAt(5, -16).told(0, 0), 0);
        due.is("A of -17", seenOnlyAt(5, -17).told(0, 0), -1);
        // Where the wave of a part is 1000, and where it is -1000.
        int[] high = {0, 8, 0, 4, 0};
        int[] low = {0, 24, 16, 12, 8};
        for (int part = 1; part < 5; part++) {
            due.is("7 of 16, part " + part, seenOnlyAt(high[part], 7).told(0, part), 0);
            due.is("8 of 16, part " + part, seenOnlyAt(high[part], 8).told(0, part), 1);
            due.is("-8 of 16, part " + part, seenOnlyAt(high[part], -8).told(0, part), 0);
            due.is("-9 of 16, part " + part, seenOnlyAt(high[part], -9).told(0, part), -1);
            due.is("8 of -16, part " + part, seenOnlyAt(low[part], 8).told(0, part), 0);
            due.is("9 of -16, part " + part, seenOnlyAt(low[part], 9).told(0, part), -1);
        }
        // 600 at 31: SIN is -195, COS 981, SIN 2 h -383, COS 2 h 924.
        int[] last = {19, -7, 37, -14, 35};
        FooledNeedle x = seenOnlyAt(31, 600);
        for (int part = 0; part < 5; part++) {
            due.is("600 at 31, part " + part, x.told(0, part), last[part]);
        }
    }

    /** What is seen times its wave is 7999 in all, which by 16000 is just less than a half. */
    private static void apartJustShortOfAHalf() {
        due.about("18, ROUNDED by 16000, just short of a half");
        int[][] rows = {
            // -16 * 383 + 17 * 831; 21 * 831 - 17 * 556; 383 + 16 * 707 - 4 * 924, and the other way about
            {1, 2, -16, 5, 17, 0, 0}, {2, 3, 21, 5, -17, 0, 0}, {3, 1, 1, 2, 16, 3, -4}, {4, 1, -4, 2, 16, 3, 1},
        };
        for (int[] row : rows) {
            FooledNeedle x = allAround(0, 0);
            for (int i = 1; i < 7; i += 2) {
                x.see(0, row[i], row[i + 1]);
            }
            x.apart(0);
            due.is("part " + row[0], x.told(0, row[0]), 0);
        }
    }

    /** The greatest that 600 can make: 20308 or 20112 (all sizes of a wave together) times 600 by 16000. */
    private static void apartAtMost() {
        due.about("18, (-999 and 999 at most)");
        FooledNeedle sines = new FooledNeedle();
        for (int part = 1; part < 5; part++) {
            for (int sign = -1; sign <= 1; sign += 2) {
                FooledNeedle x = new FooledNeedle();
                for (int heading = 0; heading < 32; heading++) {
                    int wave = sines.sine((part < 3 ? 100 : 200) * heading % 3200, part % 2 == 0);
                    x.see(0, heading, 600 * sign * Integer.signum(wave));
                }
                x.apart(0);
                due.is("the greatest of part " + part, x.told(0, part), sign * (part < 3 ? 762 : 754));
            }
            sines = new FooledNeedle();
        }
        FooledNeedle x = allAround(0, 600);
        x.apart(0);
        due.is("the greatest A", x.told(0, 0), 600);
        FooledNeedle y = allAround(0, -600);
        y.apart(0);
        due.is("the least A", y.told(0, 0), -600);
    }

    private static void apartGreatestOfWhatWasSeen() {
        due.about("18, the greatest size of what was seen less THE ERROR then");
        // 320 at north alone: A 10, C 20, E 20, so that 270 is left of it; elsewhere 50 at most.
        FooledNeedle north = allAround(0, 0);
        north.see(0, 0, 320);
        due.is("at the first heading", north.apart(0), 270);
        FooledNeedle below = allAround(0, 0);
        below.see(0, 0, -320);
        due.is("below 0", below.apart(0), 270);
        // By the parts of apartRounded() 600 at 31 alone leaves an ERROR of 19 and 75 there.
        FooledNeedle last = allAround(0, 0);
        last.see(0, 31, 600);
        due.is("at the last heading", last.apart(0), 506);
        // Between those seen FILLED is off by up to 100, but it was not seen.
        FooledNeedle few = swing(1, 3, 600, 9, -300, 23, -300, 29, 600);
        due.is("of those seen alone", few.apart(1), 92);
        int most = 0;
        for (int heading = 0; heading < 32; heading++) {
            most = Math.max(most, Math.abs(few.filled(1, heading) - few.error(1, heading, 0)));
        }
        due.is("of all that were filled", most, 100);
    }

    private static void apartLeavesJ() {
        due.about("18, to PARTS A to E (J stays)");
        FooledNeedle x = allAround(1, 0);
        for (int part = 0; part < 6; part++) {
            x.part(0, part, 50 + part);
            x.part(1, part, 70 + part);
        }
        due.is("apart", x.apart(1), 0);
        for (int part = 0; part < 5; part++) {
            due.is("part " + part, x.told(1, part), 0);
            due.is("part of another", x.told(0, part), 50 + part);
        }
        due.is("J", x.told(1, 5), 75);
        due.is("what was seen stays", x.seen(1), 32);
    }

    private static void residue() {
        due.about("19, less THE ERROR, upright; NONE: nothing was");
        FooledNeedle x = swing(0, 0, 5, 31, -600);
        due.is("5 at 0", x.residue(0, 0), 5);
        due.is("-600 at 31", x.residue(0, 31), -600);
        due.is("nothing at 1", x.residue(0, 1), NONE);
        due.is("nothing at 30", x.residue(0, 30), NONE);
        due.is("nothing of another", x.residue(1, 0), NONE);
        x.part(0, 0, 5);
        due.is("0 is not nothing", x.residue(0, 0), 0);
        x.part(0, 5, 999);
        due.is("upright", x.residue(0, 0), 0);
        x.part(0, 0, 999);
        x.part(0, 2, 999);
        x.part(0, 4, 999);
        due.is("5 less 2997", x.residue(0, 0), 5 - 2997);
    }
}
