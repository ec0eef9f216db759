/** Promises 20 to 29. */
public final class MagnetsTest {
    private static final Due due = new Due();

    public static void main(String[] args) {
        bars();
        balls();
        layBar();
        layBall();
        takeUp();
        left();
        bestByRest();
        bestOfLikeOnes();
        bestWithUnlikeBars();
        layBest();
        due.end();
    }

    private static void bars() {
        FooledNeedle x = new FooledNeedle();
        due.is("bar first", x.bar(5, 30000), 0);
        due.is("bar again", x.bar(5, 1), 30000);
        due.is("bar out", x.bar(5, 0), 1);
        due.is("bar in", x.bar(5, 77), 0);
        due.is("bar too strong", x.bar(5, 30001), Due.BAD);
        due.is("bar too weak", x.bar(5, -1), Due.BAD);
        due.is("bar 6", x.bar(6, -1), Due.UNKNOWN);
        due.is("bar -1", x.bar(-1, 1), Due.UNKNOWN);
        x.layBar(5, 0, 2, false);
        due.is("bar laid and bad", x.bar(5, 30001), Due.BAD);
        due.is("bar laid", x.bar(5, 8), Due.STATE);
        due.is("bar laid, out", x.bar(5, 0), Due.STATE);
        due.is("bar not laid", x.bar(4, 8), 0);
        x.takeUp();
        due.is("bar taken up", x.bar(5, 8), 77);
    }

    private static void balls() {
        FooledNeedle x = new FooledNeedle();
        due.is("ball first", x.ball(3, 20), 0);
        due.is("ball again", x.ball(3, 1), 20);
        due.is("ball out", x.ball(3, 0), 1);
        due.is("ball in", x.ball(3, 7), 0);
        due.is("ball too big", x.ball(3, 21), Due.BAD);
        due.is("ball too small", x.ball(3, -1), Due.BAD);
        due.is("ball 4", x.ball(4, 21), Due.UNKNOWN);
        due.is("ball -1", x.ball(-1, 1), Due.UNKNOWN);
        x.layBall(3, 7);
        due.is("ball laid and bad", x.ball(3, 21), Due.BAD);
        due.is("ball laid", x.ball(3, 8), Due.STATE);
        due.is("ball not laid", x.ball(2, 8), 0);
        x.layBall(2, 8);
        due.is("ball with another in its place", x.ball(3, 8), 7);
    }

    private static void layBar() {
        FooledNeedle x = new FooledNeedle();
        due.is("not in the store", x.layBar(0, 0, 2, false), Due.STATE);
        x.bar(0, 30000);
        x.bar(1, 728);
        due.is("slot 2", x.layBar(0, 0, 2, false), 3750);
        due.is("B left", x.leftOf(1), -3750);
        due.is("slot 9", x.layBar(0, 1, 9, true), 41);
        due.is("B as it was", x.leftOf(1), 0);
        due.is("C left, turned", x.leftOf(2), 41);
        due.is("a pull of 0", x.layBar(1, 1, 9, false), 0);
        due.is("two on one axis", x.layBar(1, 1, 3, false), 26);
        due.is("C left of both", x.leftOf(2), 15);
        due.is("two laid", x.count(1), 2);
        int[][] bad = {{-1, 2}, {2, 2}, {0, 1}, {0, 10}, {1, -3}, {Integer.MIN_VALUE, Integer.MAX_VALUE}};
        for (int[] row : bad) {
            due.is("axis, slot bad", x.layBar(0, row[0], row[1], false), Due.BAD);
            due.is("axis, slot bad, not in the store", x.layBar(4, row[0], row[1], false), Due.BAD);
        }
        due.is("bar 6", x.layBar(6, 2, 1, false), Due.UNKNOWN);
        due.is("bar -1", x.layBar(-1, 0, 2, false), Due.UNKNOWN);
        due.is("C left after what was refused", x.leftOf(2), 15);
    }

    private static void layBall() {
        FooledNeedle x = new FooledNeedle();
        due.is("not in the store", x.layBall(0, 2), Due.STATE);
        x.ball(0, 7);
        x.ball(1, 20);
        x.ball(2, 1);
        due.is("would touch", x.layBall(0, 6), Due.STATE);
        due.is("just as far", x.layBall(0, 7), 140);
        due.is("D left", x.leftOf(3), -140);
        due.is("farther", x.layBall(0, 9), 108);
        due.is("D left then", x.leftOf(3), -108);
        due.is("slot 20", x.layBall(1, 20), 400);
        due.is("D left by the other alone", x.leftOf(3), -400);
        due.is("one laid", x.count(1), 1);
        due.is("would touch, the first stays", x.layBall(0, 2), Due.STATE);
        due.is("slot 1", x.layBall(2, 1), Due.BAD);
        due.is("slot 21", x.layBall(3, 21), Due.BAD);
        due.is("ball 4", x.layBall(4, 21), Due.UNKNOWN);
        due.is("ball -1", x.layBall(-1, 2), Due.UNKNOWN);
        due.is("D left after what was refused", x.leftOf(3), -400);
        due.is("the least", x.layBall(2, 2), 10);
    }

    private static void takeUp() {
        FooledNeedle x = new FooledNeedle();
        due.is("nothing to take up", x.takeUp(), 0);
        for (int bar = 0; bar < 6; bar++) {
            x.bar(bar, 1000);
            x.layBar(bar, bar % 2, 2 + bar, bar > 3);
        }
        x.ball(3, 2);
        x.layBall(3, 20);
        due.is("all laid", x.count(1), 7);
        due.is("take up all", x.takeUp(), 7);
        due.is("none laid", x.count(1), 0);
        due.is("still in the store", x.count(2), 7);
        for (int part = 0; part < 6; part++) {
            due.is("left as told", x.leftOf(part), 0);
        }
    }

    private static void left() {
        FooledNeedle x = new FooledNeedle();
        int[] parts = {1, 200, -300, 150, -40, 60};
        for (int part = 0; part < 6; part++) {
            x.part(0, part, parts[part]);
            x.part(1, part, 7);
        }
        x.bar(0, 800);
        x.bar(1, 2700);
        x.ball(0, 5);
        x.layBar(0, 0, 2, false);
        x.layBar(1, 1, 3, true);
        x.layBall(0, 10);
        int[] due0 = {1, 100, -200, 100, -40, 60};
        for (int part = 0; part < 6; part++) {
            due.is("left of part " + part, x.leftOf(part), due0[part]);
            due.is("told stays", x.told(0, part), parts[part]);
        }
        x.event(0, 0, 1, 55);
        for (int heading = 0; heading < 32; heading++) {
            for (int part = 0; part < 6; part++) {
                x.part(2, part, due0[part]);
            }
            due.is("left at " + heading, x.left(heading), x.error(2, heading, 0));
        }
        due.is("errors do not heed magnets", x.error(0, 0, 0), 1 - 300 - 40);
        due.is("left of part 6", x.leftOf(6), Due.UNKNOWN);
        due.is("left of part -1", x.leftOf(-1), Due.UNKNOWN);
        due.is("left at 32", x.left(32), Due.UNKNOWN);
        due.is("left at -1", x.left(-1), Due.UNKNOWN);
    }

    private static void codes(FooledNeedle x, String of, int rest, int fore, int athwart, int balls, int many) {
        due.is(of + ": rest", x.best(), rest);
        due.is(of + ": axis 0", x.bestCode(0), fore);
        due.is(of + ": axis 1", x.bestCode(1), athwart);
        due.is(of + ": balls", x.bestCode(2), balls);
        due.is(of + ": magnets", x.bestCode(3), many);
    }

    private static void bestByRest() {
        FooledNeedle x = new FooledNeedle();
        x.part(0, 1, -30);
        x.part(0, 2, 20);
        x.part(0, 3, 50);
        codes(x, "nothing in the store", 100, 0, 0, 0, 0);
        // 810 by 27 is 30, at slot 3 and turned: 1 + 16 * 4 + 2 * 1 + 1.
        x.bar(4, 810);
        codes(x, "one bar", 70, 68, 0, 0, 1);
        // 160 by 8 is 20: 1 + 16 * 5.
        x.bar(5, 160);
        codes(x, "two bars", 50, 68, 81, 0, 2);
        // 20 * 25 by 10 is 50: 1 + 19 * 3 + 8.
        x.ball(3, 5);
        codes(x, "balls", 0, 68, 81, 66, 3);
        x.layBar(0, 1, 2, false);
        x.layBar(5, 1, 2, false);
        x.layBall(3, 20);
        codes(x, "what is laid already does not matter", 0, 68, 81, 66, 3);
        x.event(0, 0, 1, 300);
        codes(x, "what is put by events does not matter", 0, 68, 81, 66, 3);
        due.is("best lays nothing", x.count(1), 2);
        due.is("code 4", x.bestCode(4), Due.BAD);
        due.is("code -1", x.bestCode(-1), Due.BAD);
        x.takeUp();
        x.part(0, 3, -50);
        codes(x, "balls only take", 50, 68, 81, 0, 2);
    }

    private static void bestOfLikeOnes() {
        FooledNeedle x = new FooledNeedle();
        x.part(0, 1, 10);
        x.bar(2, 80);
        x.bar(1, 270);
        codes(x, "the least code of two bars", 0, 19, 0, 0, 1);
        x.part(0, 2, 10);
        codes(x, "least code of axis 0 first", 0, 19, 33, 0, 2);
        // 160 by 8 is 20 and leaves 10, as none does; by 27 it is 5, the best there is.
        FooledNeedle y = new FooledNeedle();
        y.part(0, 1, 10);
        y.bar(0, 160);
        y.ball(0, 1);
        codes(y, "nearer to 0, and no balls where D is 0", 5, 3, 0, 0, 1);
        FooledNeedle z = new FooledNeedle();
        z.part(0, 3, 5);
        z.ball(0, 1);
        // 20 by 4 is 5: 1 + 2.
        codes(z, "balls, the least code", 0, 0, 0, 3, 1);
        z.part(0, 3, 1);
        // 20 by 11 to 20 is 1: 1 + 9 is the first.
        codes(z, "balls, the least code of many", 0, 0, 0, 10, 1);
        // 20 * 4 by 2 is 40, at slot 2, no less than its size: 1.
        FooledNeedle near = new FooledNeedle();
        near.part(0, 3, 41);
        near.ball(0, 2);
        codes(near, "balls of code 1", 1, 0, 0, 1, 1);
        near.ball(0, 3);
        // 180 by 3 is 60, by 4 is 45, by 5 is 36; by 2 they would touch.
        codes(near, "balls no nearer than their size", 4, 0, 0, 3, 1);
        near.part(0, 3, 90);
        codes(near, "balls just at their size", 30, 0, 0, 2, 1);
        near.ball(0, 0);
        near.ball(1, 1);
        near.part(0, 3, 10);
        codes(near, "balls 1 at slot 2", 0, 0, 0, 20, 1);
        near.part(0, 3, 1);
        codes(near, "balls 1 at slot 11", 0, 0, 0, 29, 1);
        FooledNeedle fewest = new FooledNeedle();
        fewest.part(0, 1, 1);
        fewest.bar(0, 16);
        // At slot 2 it pulls by 2 and leaves 1, as none does; from slot 3 on it pulls by 0.
        codes(fewest, "none is fewer", 1, 0, 0, 0, 0);
    }

    private static void bestWithUnlikeBars() {
        FooledNeedle x = new FooledNeedle();
        x.part(0, 1, 100);
        x.part(0, 2, 100);
        x.bar(3, 800);
        codes(x, "one bar for two axes: fore code 0 is less", 100, 0, 49, 0, 1);
        x.part(0, 1, 101);
        codes(x, "one bar for two axes, alike but for one", 101, 0, 49, 0, 1);
        x.bar(0, 808);
        codes(x, "two bars for two axes", 0, 1, 49, 0, 2);
    }

    private static void layBest() {
        FooledNeedle x = new FooledNeedle();
        due.is("nothing to lay", x.layBest(), 0);
        x.part(0, 1, -33);
        x.part(0, 2, 20);
        x.part(0, 3, 50);
        x.bar(0, 999);
        x.bar(4, 810);
        x.bar(5, 160);
        x.ball(3, 5);
        x.layBar(0, 1, 9, true);
        int rest = x.best();
        int magnets = x.bestCode(3);
        due.is("layBest", x.layBest(), rest);
        due.is("laid", x.count(1), magnets);
        int left = Math.abs(x.leftOf(1)) + Math.abs(x.leftOf(2)) + Math.abs(x.leftOf(3));
        due.is("left is the rest", left, rest);
        due.is("layBest again", x.layBest(), rest);
        due.is("laid again", x.count(1), magnets);
        x.part(0, 1, 0);
        x.part(0, 2, 0);
        x.part(0, 3, 0);
        due.is("layBest takes all up", x.layBest(), 0);
        due.is("none laid", x.count(1), 0);
    }
}
