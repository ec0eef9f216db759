/** The boundary cases of part 3 and of promises 20 to 29, sentence by sentence; RefusalsTest has what is refused. */
public final class MagnetsEdgesTest {
    private static final Due due = new Due();

    public static void main(String[] args) {
        barInTheStore();
        barLaidStays();
        ballInTheStore();
        ballLaidStays();
        pullOfBarIsCut();
        barInsteadOfAsItWas();
        barsOnOneAxis();
        ballSlots();
        pullOfBallIsCut();
        ballInsteadOfAny();
        takeUp();
        leftOf();
        left();
        bestOfNothing();
        bestFewestMagnets();
        bestLeastCode();
        bestUnlikeBars();
        bestFirstAndLastCodes();
        bestBallsNoNearerThanTheirSize();
        bestOfTheStore();
        bestCodeAlone();
        layBest();
        due.end();
    }

    private static FooledNeedle ship(int b, int c, int d) {
        FooledNeedle x = new FooledNeedle();
        x.part(0, 1, b);
        x.part(0, 2, c);
        x.part(0, 3, d);
        return x;
    }

    private static void codes(FooledNeedle x, String of, int rest, int fore, int athwart, int balls, int many) {
        due.is(of + ": rest", x.best(), rest);
        due.is(of + ": axis 0", x.bestCode(0), fore);
        due.is(of + ": axis 1", x.bestCode(1), athwart);
        due.is(of + ": balls", x.bestCode(2), balls);
        due.is(of + ": magnets", x.bestCode(3), many);
    }

    private static void barInTheStore() {
        due.about("20, STRENGTH 1 .. 30000; 0: it is not in the store");
        FooledNeedle x = new FooledNeedle();
        for (int bar = 0; bar < 6; bar++) {
            due.is("30000", x.bar(bar, 30000), 0);
            due.is("one more in the store", x.count(2), bar + 1);
            due.is("1", x.bar(bar, 1), 30000);
            due.is("30001", x.bar(bar, 30001), Due.BAD);
            due.is("-1", x.bar(bar, -1), Due.BAD);
            due.is("with 1 it is in the store", x.layBar(bar, 0, 2, false), 0);
        }
        x.takeUp();
        for (int bar = 0; bar < 6; bar++) {
            due.is("0", x.bar(bar, 0), 1);
            due.is("one less in the store", x.count(2), 5 - bar);
            due.is("with 0 it is not", x.layBar(bar, 0, 2, false), Due.STATE);
            due.is("0 again", x.bar(bar, 0), 0);
        }
    }

    private static void barLaidStays() {
        due.about("20, STATE: it is laid");
        FooledNeedle x = new FooledNeedle();
        x.bar(0, 8);
        x.bar(1, 8);
        x.layBar(0, 0, 9, false);
        due.is("laid, with a PULL of 0", x.bar(0, 9), Due.STATE);
        due.is("laid, out of the store", x.bar(0, 0), Due.STATE);
        due.is("laid and bad", x.bar(0, 30001), Due.BAD);
        due.is("one that is not laid", x.bar(1, 9), 8);
        x.layBar(0, 1, 2, true);
        due.is("laid anew", x.bar(0, 9), Due.STATE);
        x.takeUp();
        due.is("taken up", x.bar(0, 9), 8);
    }

    private static void ballInTheStore() {
        due.about("21, SIZE 1 .. 20; 0: it is not in the store");
        FooledNeedle x = new FooledNeedle();
        for (int ball = 0; ball < 4; ball++) {
            due.is("20", x.ball(ball, 20), 0);
            due.is("one more in the store", x.count(2), ball + 1);
            due.is("1", x.ball(ball, 1), 20);
            due.is("21", x.ball(ball, 21), Due.BAD);
            due.is("-1", x.ball(ball, -1), Due.BAD);
            due.is("with 1 it is in the store", x.layBall(ball, 2), 10);
            x.takeUp();
        }
        for (int ball = 0; ball < 4; ball++) {
            due.is("0", x.ball(ball, 0), 1);
            due.is("one less in the store", x.count(2), 3 - ball);
            due.is("with 0 it is not", x.layBall(ball, 2), Due.STATE);
            due.is("0 again", x.ball(ball, 0), 0);
        }
    }

    private static void ballLaidStays() {
        due.about("21, STATE: it is laid");
        for (int ball = 0; ball < 4; ball++) {
            FooledNeedle x = new FooledNeedle();
            int other = (ball + 1) % 4;
            x.ball(ball, 5);
            x.ball(other, 6);
            x.layBall(ball, 9);
            due.is("laid", x.ball(ball, 4), Due.STATE);
            due.is("laid, out of the store", x.ball(ball, 0), Due.STATE);
            due.is("laid and bad", x.ball(ball, 21), Due.BAD);
            due.is("one that is not laid", x.ball(other, 7), 6);
            x.layBall(other, 9);
            due.is("another is laid instead", x.ball(ball, 4), 5);
            due.is("that one is laid", x.ball(other, 4), Due.STATE);
            x.takeUp();
            due.is("taken up", x.ball(other, 4), 7);
        }
    }

    private static void pullOfBarIsCut() {
        due.about("22, STRENGTH by SLOT times SLOT times SLOT, cut");
        int[][] rows = {
            // strength, slot, pull
            {1, 2, 0}, {7, 2, 0}, {8, 2, 1}, {15, 2, 1}, {16, 2, 2}, {30000, 2, 3750}, {26, 3, 0}, {27, 3, 1}, {63, 4, 0},
            {64, 4, 1}, {124, 5, 0}, {125, 5, 1}, {215, 6, 0}, {216, 6, 1}, {342, 7, 0}, {343, 7, 1}, {511, 8, 0}, {512, 8, 1},
            {728, 9, 0}, {729, 9, 1}, {30000, 9, 41}, {29888, 9, 40}, {29889, 9, 41},
        };
        for (int[] row : rows) {
            FooledNeedle x = new FooledNeedle();
            x.bar(5, row[0]);
            due.is(row[0] + " at " + row[1], x.layBar(5, 0, row[1], false), row[2]);
            due.is("taken from B", x.leftOf(1), -row[2]);
            due.is("turned, the PULL is the same", x.layBar(5, 1, row[1], true), row[2]);
            due.is("put to C", x.leftOf(2), row[2]);
            due.is("no more from B", x.leftOf(1), 0);
        }
    }

    private static void barInsteadOfAsItWas() {
        due.about("22, (instead of as it was)");
        FooledNeedle x = new FooledNeedle();
        x.bar(0, 8000);
        x.layBar(0, 0, 2, false);
        due.is("the same again", x.layBar(0, 0, 2, false), 1000);
        due.is("once alone", x.leftOf(1), -1000);
        x.layBar(0, 0, 4, false);
        due.is("at another slot", x.leftOf(1), -125);
        x.layBar(0, 0, 4, true);
        due.is("turned", x.leftOf(1), 125);
        x.layBar(0, 1, 4, true);
        due.is("on the other axis", x.leftOf(1), 0);
        due.is("on the other axis, C", x.leftOf(2), 125);
        due.is("one laid", x.count(1), 1);
        due.is("refused", x.layBar(0, 0, 10, false), Due.BAD);
        due.is("as it was", x.leftOf(2), 125);
        due.is("one is taken up", x.takeUp(), 1);
    }

    private static void barsOnOneAxis() {
        due.about("22, (more than one may be laid on an AXIS)");
        for (int axis = 0; axis < 2; axis++) {
            FooledNeedle x = new FooledNeedle();
            for (int bar = 0; bar < 6; bar++) {
                x.bar(bar, 30000);
                due.is("bar " + bar, x.layBar(bar, axis, 2, false), 3750);
                due.is("left of all", x.leftOf(1 + axis), -3750 * (bar + 1));
                due.is("the other axis", x.leftOf(2 - axis), 0);
            }
            due.is("six laid", x.count(1), 6);
        }
    }

    private static void ballSlots() {
        due.about("23, SLOT 2 .. 20, no less than its SIZE");
        for (int size = 1; size <= 20; size++) {
            FooledNeedle x = new FooledNeedle();
            x.ball(2, size);
            for (int slot = 2; slot <= 20; slot++) {
                int pull = slot < size ? Due.STATE : 20 * size * size / slot;
                due.is(size + " at " + slot, x.layBall(2, slot), pull);
            }
            due.is(size + " at 1", x.layBall(2, 1), Due.BAD);
            due.is(size + " at 21", x.layBall(2, 21), Due.BAD);
            due.is("still at 20", x.leftOf(3), -size * size);
        }
    }

    private static void pullOfBallIsCut() {
        due.about("23, 20 times SIZE times SIZE by SLOT, cut");
        int[][] rows = {{1, 2, 10}, {1, 3, 6}, {1, 11, 1}, {1, 19, 1}, {1, 20, 1}, {3, 7, 25}, {19, 19, 380}, {19, 20, 361}, {20, 20, 400}};
        for (int[] row : rows) {
            FooledNeedle x = new FooledNeedle();
            x.ball(0, row[0]);
            due.is(row[0] + " at " + row[1], x.layBall(0, row[1]), row[2]);
            due.is("taken from D", x.leftOf(3), -row[2]);
            due.is("not from B", x.leftOf(1), 0);
            due.is("not from C", x.leftOf(2), 0);
        }
    }

    private static void ballInsteadOfAny() {
        due.about("23, (instead of any): one pair may be laid at a time");
        FooledNeedle x = new FooledNeedle();
        for (int ball = 0; ball < 4; ball++) {
            x.ball(ball, ball + 2);
        }
        for (int ball = 3; ball >= 0; ball--) {
            x.layBall(ball, 20);
            due.is("one laid", x.count(1), 1);
            due.is("D by it alone", x.leftOf(3), -(ball + 2) * (ball + 2));
        }
        due.is("the same pair elsewhere", x.layBall(0, 2), 40);
        due.is("once alone", x.leftOf(3), -40);
        due.is("refused, they would touch", x.layBall(3, 4), Due.STATE);
        due.is("the first one stays", x.leftOf(3), -40);
        due.is("one is taken up", x.takeUp(), 1);
    }

    private static void takeUp() {
        due.about("24, all that is laid: how many");
        FooledNeedle x = new FooledNeedle();
        due.is("none", x.takeUp(), 0);
        for (int bar = 0; bar < 6; bar++) {
            x.bar(bar, 8);
        }
        x.ball(3, 1);
        due.is("in the store, not laid", x.takeUp(), 0);
        x.layBar(5, 1, 9, true);
        due.is("the last bar, with a PULL of 0", x.takeUp(), 1);
        x.layBall(3, 2);
        due.is("a pair is one", x.takeUp(), 1);
        for (int bar = 0; bar < 6; bar++) {
            x.layBar(bar, bar % 2, 2, false);
        }
        x.layBall(3, 2);
        due.is("all laid", x.count(1), 7);
        due.is("all", x.takeUp(), 7);
        due.is("none is left", x.takeUp(), 0);
        for (int part = 1; part <= 3; part++) {
            due.is("nothing is taken from " + part, x.leftOf(part), 0);
        }
        due.is("still in the store", x.count(2), 7);
    }

    private static void leftOf() {
        due.about("25, WHAT IS LEFT with all that is laid (A, E, J as they are), not held to 999");
        for (int turned = 0; turned < 2; turned++) {
            int sign = turned == 0 ? -1 : 1;
            FooledNeedle x = new FooledNeedle();
            for (int part = 0; part < 6; part++) {
                x.part(0, part, 999 * sign);
                x.part(1, part, 7);
            }
            x.ball(0, 20);
            x.layBall(0, 20);
            for (int bar = 0; bar < 6; bar++) {
                x.bar(bar, 30000);
                x.layBar(bar, 0, 2, turned == 1);
            }
            int[] left = {999 * sign, 23499 * sign, 999 * sign, 999 * sign - 400, 999 * sign, 999 * sign};
            for (int part = 0; part < 6; part++) {
                due.is("left of " + part, x.leftOf(part), left[part]);
                due.is("told of " + part, x.told(0, part), 999 * sign);
                due.is("compass 1", x.told(1, part), 7);
            }
            for (int bar = 0; bar < 6; bar++) {
                x.layBar(bar, 1, 2, turned == 1);
            }
            due.is("left of C", x.leftOf(2), 23499 * sign);
            due.is("left at north", x.left(0), sign * (999 + 23499 + 999));
            due.is("left at south", x.left(16), sign * (999 - 23499 + 999));
        }
    }

    private static void left() {
        due.about("26, THE ERROR with these, upright");
        FooledNeedle x = ship(100, 60, 40);
        x.part(0, 5, 999);
        x.bar(0, 800);
        x.bar(1, 480);
        x.ball(0, 2);
        due.is("nothing laid, north", x.left(0), 60);
        due.is("nothing laid, east", x.left(8), 100);
        due.is("nothing laid, north-east", x.left(4), 153);
        x.layBar(0, 0, 2, false);
        x.layBar(1, 1, 2, false);
        x.layBall(0, 2);
        for (int heading = 0; heading < 32; heading++) {
            due.is("all taken away at " + heading, x.left(heading), 0);
        }
        due.is("the card itself stays", x.error(0, 8, 0), 100);
        x.layBar(1, 1, 2, true);
        due.is("C twice, at 31", x.left(31), 118);
        x.event(0, 0, 0, 300);
        due.is("no event in it", x.left(31), 118);
    }

    private static void bestOfNothing() {
        due.about("27, sizes of what is left of B, C, D together");
        codes(new FooledNeedle(), "nothing to take away", 0, 0, 0, 0, 0);
        codes(ship(-999, 999, -999), "nothing in the store", 2997, 0, 0, 0, 0);
        FooledNeedle x = ship(0, 0, 0);
        x.part(0, 0, 999);
        x.part(0, 4, 999);
        x.part(0, 5, 999);
        codes(x, "A, E, J do not count", 0, 0, 0, 0, 0);
        FooledNeedle y = ship(-999, 999, 999);
        y.bar(0, 30000);
        y.bar(1, 30000);
        y.ball(0, 20);
        // 30000 by 27 is 1111, by 64 is 468: 112 is less than 531. 400 is the most that balls take.
        codes(y, "all three", 112 + 112 + 599, 4, 19, 19, 3);
        FooledNeedle d = ship(0, 0, -5);
        d.ball(0, 1);
        codes(d, "balls only take from D", 5, 0, 0, 0, 0);
    }

    private static void bestFewestMagnets() {
        due.about("27 and 28, of like ones the fewest MAGNETS");
        FooledNeedle one = ship(1, 0, 0);
        one.bar(0, 16);
        // At slot 2 it leaves -1, farther off it pulls by 0: none is as good.
        codes(one, "none is as good as a bar", 1, 0, 0, 0, 0);
        FooledNeedle athwart = ship(0, -1, 0);
        athwart.bar(5, 16);
        codes(athwart, "none is as good as a bar athwart", 1, 0, 0, 0, 0);
        FooledNeedle balls = ship(0, 0, 5);
        balls.ball(0, 1);
        balls.ball(1, 1);
        codes(balls, "balls that take all", 0, 0, 0, 3, 1);
        FooledNeedle far = ship(0, 0, 200);
        far.ball(0, 20);
        // At slot 20 they leave -200.
        codes(far, "none is as good as balls", 200, 0, 0, 0, 0);
        // 72 at slot 2 pulls by 9: 3 and 1 are left. Bar 0 (2) and 72 at slot 4 (1) leave 4 and 0.
        FooledNeedle two = ship(6, 1, 0);
        two.bar(0, 16);
        two.bar(1, 72);
        codes(two, "one bar ahead of two with a lesser code", 4, 17, 0, 0, 1);
    }

    private static void bestLeastCode() {
        due.about("27 and 28, the least CODE of AXIS 0, then of AXIS 1, then of BALLS");
        FooledNeedle x = ship(10, 10, 10);
        x.bar(1, 80);
        x.bar(2, 80);
        x.ball(1, 1);
        x.ball(2, 1);
        codes(x, "like bars and balls", 0, 17, 33, 20, 3);
        x.bar(0, 80);
        x.ball(0, 1);
        codes(x, "a lesser number", 0, 1, 17, 1, 3);
        x.bar(0, 270);
        codes(x, "a lesser number, farther off", 0, 3, 17, 1, 3);
        FooledNeedle slots = ship(1, 0, 1);
        slots.bar(0, 100);
        slots.ball(3, 1);
        // 100 by 64 is 1, by 125 is 0; 20 by 11 to 20 is 1.
        codes(slots, "of like slots the least", 0, 5, 0, 67, 2);
        FooledNeedle either = ship(50, 50, 0);
        either.bar(0, 400);
        codes(either, "none on AXIS 0 has the least code", 50, 0, 1, 0, 1);
        FooledNeedle second = ship(0, -10, 0);
        second.bar(3, 80);
        second.bar(4, 80);
        codes(second, "least of AXIS 1", 0, 0, 50, 0, 1);
    }

    private static void bestUnlikeBars() {
        due.about("27, one BAR or none on each AXIS (unlike ones)");
        FooledNeedle x = ship(100, 99, 0);
        x.bar(2, 800);
        codes(x, "one bar: where it takes most", 99, 33, 0, 0, 1);
        x.part(0, 2, 101);
        codes(x, "one bar: where it leaves least", 101, 0, 33, 0, 1);
        x.part(0, 1, 200);
        x.part(0, 2, 0);
        x.bar(3, 800);
        codes(x, "not two on one axis", 100, 33, 0, 0, 1);
        x.part(0, 2, 100);
        codes(x, "one on each", 100, 33, 49, 0, 2);
    }

    private static void bestFirstAndLastCodes() {
        due.about("28, 1 and 16 times its number and 2 times SLOT - 2, and 1 if TURNED; 1 and 19 times their number and SLOT - 2");
        for (int bar = 0; bar < 6; bar++) {
            FooledNeedle x = ship(41, 0, 0);
            x.bar(bar, 30000);
            codes(x, "slot 9", 0, 1 + 16 * bar + 14, 0, 0, 1);
            x.part(0, 1, -41);
            codes(x, "slot 9, turned", 0, 1 + 16 * bar + 15, 0, 0, 1);
            FooledNeedle y = ship(0, 1, 0);
            y.bar(bar, 8);
            codes(y, "slot 2", 0, 0, 1 + 16 * bar, 0, 1);
            y.part(0, 2, -1);
            codes(y, "slot 2, turned", 0, 0, 2 + 16 * bar, 0, 1);
        }
        for (int ball = 0; ball < 4; ball++) {
            FooledNeedle x = ship(0, 0, 400);
            x.ball(ball, 20);
            codes(x, "slot 20", 0, 0, 0, 1 + 19 * ball + 18, 1);
            FooledNeedle y = ship(0, 0, 10);
            y.ball(ball, 1);
            codes(y, "slot 2", 0, 0, 0, 1 + 19 * ball, 1);
        }
    }

    private static void bestBallsNoNearerThanTheirSize() {
        due.about("27, balls no nearer than their SIZE");
        FooledNeedle x = ship(0, 0, 160);
        x.ball(0, 4);
        // 320 by 2 would be all of it; 320 by 4 is 80.
        codes(x, "at its size", 80, 0, 0, 3, 1);
        x.part(0, 3, 106);
        codes(x, "at its size, not at one less", 26, 0, 0, 3, 1);
        x.ball(1, 3);
        // 180 by 3 is 60.
        codes(x, "another pair farther off its size", 26, 0, 0, 3, 1);
        x.ball(2, 5);
        // 500 by 5 is 100.
        codes(x, "a greater pair", 6, 0, 0, 42, 1);
    }

    private static void bestOfTheStore() {
        due.about("27 to 29, of what is in the store, however it is laid, by what was told of B, C, D");
        FooledNeedle x = ship(10, 20, 5);
        x.bar(0, 80);
        x.bar(1, 160);
        x.ball(0, 1);
        codes(x, "nothing laid", 0, 1, 17, 3, 3);
        x.layBar(0, 1, 3, true);
        x.layBar(1, 1, 9, true);
        x.layBall(0, 20);
        codes(x, "laid otherwise", 0, 1, 17, 3, 3);
        due.is("best lays nothing", x.leftOf(3), 4);
        x.event(0, 0, 1, 300);
        codes(x, "events do not count", 0, 1, 17, 3, 3);
        x.takeUp();
        x.bar(0, 0);
        codes(x, "bar 0 gone", 10, 0, 17, 3, 2);
        x.ball(0, 0);
        codes(x, "balls gone", 15, 0, 17, 0, 1);
        x.bar(1, 0);
        codes(x, "all gone", 35, 0, 0, 0, 0);
    }

    private static void bestCodeAlone() {
        due.about("28, of THE BEST LAYING as it is now, whatever was asked ahead of it");
        int[] dues = {1, 18, 3, 3};
        for (int what = 0; what <= 3; what++) {
            FooledNeedle x = ship(10, -20, 5);
            x.bar(0, 80);
            x.bar(1, 160);
            x.ball(0, 1);
            due.is("asked first, what " + what, x.bestCode(what), dues[what]);
            x.part(0, 1, 0);
            x.part(0, 2, 0);
            x.part(0, 3, 0);
            due.is("asked again, what " + what, x.bestCode(what), 0);
        }
    }

    private static void layBest() {
        due.about("29, all is taken up, THE BEST LAYING is laid");
        FooledNeedle none = ship(3, -4, -5);
        due.is("nothing in the store", none.layBest(), 12);
        due.is("nothing laid", none.count(1), 0);
        FooledNeedle x = ship(12, -23, 7);
        x.bar(2, 80);
        x.bar(3, 160);
        x.bar(4, 1);
        x.ball(1, 1);
        x.ball(2, 20);
        x.layBar(4, 0, 2, false);
        x.layBar(2, 1, 2, false);
        x.layBall(2, 20);
        // 10 of 12, 20 of 23 (turned), 6 of 7 are taken: 20 by 3 is 6.
        due.is("rest", x.layBest(), 2 + 3 + 1);
        due.is("B", x.leftOf(1), 2);
        due.is("C", x.leftOf(2), -3);
        due.is("D", x.leftOf(3), 1);
        due.is("three laid", x.count(1), 3);
        due.is("bar 4 was taken up", x.bar(4, 2), 1);
        due.is("balls 2 were taken up", x.ball(2, 19), 20);
        due.is("bar 2 is laid", x.bar(2, 1), Due.STATE);
        due.is("bar 3 is laid", x.bar(3, 1), Due.STATE);
        due.is("balls 1 are laid", x.ball(1, 1), Due.STATE);
        due.is("again", x.layBest(), 6);
        x.part(0, 1, 0);
        x.part(0, 2, 0);
        x.part(0, 3, 0);
        due.is("none is best", x.layBest(), 0);
        due.is("all was taken up", x.takeUp(), 0);
        due.is("five in the store", x.count(2), 5);
    }
}
