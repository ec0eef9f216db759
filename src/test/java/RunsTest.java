import java.util.Random;

/** All promises: long runs of calls, chosen by a fixed seed, compared with PlainNeedle call by call. */
public final class RunsTest {
    private static final int RUNS = 160, CALLS = 512, METHODS = 46;
    private static final int[] ODD = {
        Integer.MIN_VALUE, Integer.MIN_VALUE + 1, -10000, -3200, -2009, -2002, -1601, -1600, -1000, -601, -31, -1, 0, 1,
        2, 3, 4, 6, 8, 9, 10, 20, 21, 31, 32, 40, 41, 300, 301, 600, 601, 999, 1000, 1001, 1599, 1600, 3199, 3200, 9999, 10000,
        30000, 30001, Integer.MAX_VALUE - 1, Integer.MAX_VALUE
    };

    private final Due due = new Due();
    private Random dice;
    private int oddOneIn;
    private int day;
    private FooledNeedle x;
    private PlainNeedle y;

    public static void main(String[] args) {
        RunsTest test = new RunsTest();
        for (int run = 0; run < RUNS; run++) {
            test.run(run);
        }
        test.due.end();
    }

    private void run(int seed) {
        dice = new Random(seed);
        oddOneIn = new int[] {400, 60, 12, 3}[seed % 4];
        day = 0;
        x = new FooledNeedle();
        y = new PlainNeedle();
        int theme = seed % 7;
        for (int call = 0; call < CALLS; call++) {
            int method = dice.nextInt(METHODS);
            if (theme < 4 && dice.nextInt(3) > 0) {
                int[] from = {0, 11, 18, 32};
                int[] to = {11, 18, 32, 46};
                method = from[theme] + dice.nextInt(to[theme] - from[theme]);
            }
            one("seed " + seed + " call " + call, method);
        }
    }

    private int any(int least, int most) {
        if (dice.nextInt(oddOneIn) == 0) {
            return dice.nextBoolean() ? ODD[dice.nextInt(ODD.length)] : dice.nextBoolean() ? least - 1 : most + 1;
        }
        int kind = dice.nextInt(12);
        return kind == 0 ? least : kind == 1 ? most : least + dice.nextInt(most - least + 1);
    }

    private int orNone(int v) {
        return dice.nextInt(3) == 0 ? Due.NONE : v;
    }

    /** Days of legs mostly go up by little. */
    private int nextDay() {
        if (dice.nextInt(oddOneIn) == 0) {
            return any(0, 999);
        }
        day = y.count(0) == 0 ? dice.nextInt(50) : Math.min(999, y.about(y.count(0) - 1, 0) + dice.nextInt(4));
        return day;
    }

    private void one(String at, int method) {
        if (method < 11) {
            waves(at, method);
        } else if (method < 18) {
            swings(at, method);
        } else if (method < 28) {
            magnets(at, method);
        } else if (method < 32) {
            places(at, method);
        } else {
            voyages(at, method);
        }
    }

    private void waves(String at, int method) {
        int c = any(0, 2);
        int r = any(0, 3199);
        int g = any(-30, 30);
        int h = any(0, 31);
        int p = any(0, 5);
        int v = any(-999, 999);
        boolean b = dice.nextBoolean();
        switch (method) {
            case 0 -> due.is(at + " sine " + r + b, x.sine(r, b), y.sine(r, b));
            case 1 -> due.is(at + " way " + r + " " + v, x.way(r, v), y.way(r, v));
            case 2 -> due.is(at + " part", x.part(c, p, v), y.part(c, p, v));
            case 3 -> due.is(at + " told", x.told(c, p), y.told(c, p));
            case 4 -> due.is(at + " error", x.error(c, h, g), y.error(c, h, g));
            case 5 -> due.is(at + " errorAt", x.errorAt(c, r, g), y.errorAt(c, r, g));
            case 6 -> due.is(at + " trueOf", x.trueOf(c, r, g), y.trueOf(c, r, g));
            case 7 -> due.is(at + " steer", x.steer(c, r, g), y.steer(c, r, g));
            case 8 -> due.is(at + " worst", x.worst(c), y.worst(c));
            case 9 -> due.is(at + " worstAt", x.worstAt(c), y.worstAt(c));
            default -> due.is(at + " twofold", x.twofold(c), y.twofold(c));
        }
    }

    private void swings(String at, int method) {
        int c = any(0, 2);
        int h = any(0, 31);
        int v = any(-600, 600);
        switch (method) {
            case 11 -> due.is(at + " see", x.see(c, h, v), y.see(c, h, v));
            case 12 -> due.is(at + " forget", x.forget(c, h), y.forget(c, h));
            case 13 -> due.is(at + " seen", x.seen(c), y.seen(c));
            case 14 -> due.is(at + " filled", x.filled(c, h), y.filled(c, h));
            case 15 -> due.is(at + " gap", x.gap(c), y.gap(c));
            case 16 -> due.is(at + " apart", x.apart(c), y.apart(c));
            default -> due.is(at + " residue", x.residue(c, h), y.residue(c, h));
        }
    }

    private void magnets(String at, int method) {
        int bar = any(0, 5);
        int ball = any(0, 3);
        int axis = any(0, 1);
        int slot = any(2, method == 21 ? 20 : 9);
        // Weak bars make many like layings, of which the order has to choose.
        int strength = dice.nextInt(3) == 0 ? 0 : any(0, dice.nextBoolean() ? 300 : 30000);
        int size = dice.nextInt(3) == 0 ? 0 : any(0, 20);
        boolean b = dice.nextBoolean();
        if (dice.nextInt(4) == 0) {
            int part = 1 + dice.nextInt(3);
            int little = dice.nextInt(41) - 20;
            due.is(at + " part", x.part(0, part, little), y.part(0, part, little));
            return;
        }
        switch (method) {
            case 18 -> due.is(at + " bar", x.bar(bar, strength), y.bar(bar, strength));
            case 19 -> due.is(at + " ball", x.ball(ball, size), y.ball(ball, size));
            case 20 -> due.is(at + " layBar", x.layBar(bar, axis, slot, b), y.layBar(bar, axis, slot, b));
            case 21 -> due.is(at + " layBall", x.layBall(ball, slot), y.layBall(ball, slot));
            case 22 -> due.is(at + " takeUp", x.takeUp(), y.takeUp());
            case 23 -> due.is(at + " leftOf", x.leftOf(bar), y.leftOf(bar));
            case 24 -> {
                int h = any(0, 31);
                due.is(at + " left", x.left(h), y.left(h));
            }
            case 25 -> due.is(at + " best", x.best(), y.best());
            case 26 -> due.is(at + " bestCode " + ball, x.bestCode(ball), y.bestCode(ball));
            default -> due.is(at + " layBest", x.layBest(), y.layBest());
        }
    }

    private void places(String at, int method) {
        int c = any(0, 2);
        int p = any(0, 7);
        int one = any(0, 7);
        int two = any(0, 7);
        int h = method == 28 ? any(1, 999) : any(0, 31);
        int z = any(-999, 999);
        boolean b = dice.nextBoolean();
        switch (method) {
            case 28 -> due.is(at + " place", x.place(p, h, z), y.place(p, h, z));
            case 29 -> due.is(at + " note", x.note(c, p), y.note(c, p));
            case 30 -> due.is(at + " foretold", x.foretold(c, p, one, two, b), y.foretold(c, p, one, two, b));
            default -> due.is(at + " foretoldError",
                x.foretoldError(c, h, p, one, two), y.foretoldError(c, h, p, one, two));
        }
    }

    private void voyages(String at, int method) {
        int leg = any(0, Math.max(0, y.count(0) - 1));
        int d = any(0, dice.nextBoolean() ? 60 : 999);
        int what = any(0, 2);
        int part = any(0, 5);
        boolean b = dice.nextBoolean();
        switch (method) {
            case 32 -> {
                int event = any(0, 19);
                int v = dice.nextInt(4) == 0 ? 0 : any(-300, 300);
                due.is(at + " event", x.event(event, d, part, v), y.event(event, d, part, v));
            }
            case 33 -> due.is(at + " asOf", x.asOf(part, d), y.asOf(part, d));
            case 34, 35 -> addLeg(at);
            case 36 -> {
                int of = any(0, 8);
                due.is(at + " about " + of, x.about(leg, of), y.about(leg, of));
            }
            case 37 -> {
                if (dice.nextInt(12) == 0) {
                    due.is(at + " home", x.home(), y.home());
                } else {
                    addLeg(at);
                }
            }
            case 38 -> {
                int n = any(0, y.count(0));
                int s = any(-1600, 1599);
                due.is(at + " worked", x.worked(n, d, s, b), y.worked(n, d, s, b));
            }
            case 39 -> due.is(at + " split", x.split(), y.split());
            case 40 -> due.is(at + " splitCost", x.splitCost(), y.splitCost());
            case 41 -> due.is(at + " jump " + what, x.jump(what), y.jump(what));
            case 42 -> {
                int limit = any(0, 1600);
                due.is(at + " firstApart", x.firstApart(limit), y.firstApart(limit));
            }
            case 43 -> due.is(at + " nearer", x.nearer(leg), y.nearer(leg));
            case 44 -> {
                int far = dice.nextBoolean() ? 500 : 9999;
                int north = any(-far, far);
                int east = any(-far, far);
                due.is(at + " wreck " + what, x.wreck(north, east, what), y.wreck(north, east, what));
            }
            default -> due.is(at + " count", x.count(part), y.count(part));
        }
    }

    private void addLeg(String at) {
        int d = nextDay();
        int r = any(0, 3199);
        int g = any(-30, 30);
        int miles = any(0, dice.nextBoolean() ? 5 : 300);
        int other = orNone(dice.nextBoolean() ? any(0, 3199) : Math.floorMod(r + dice.nextInt(200) - 100, 3200));
        int sun = orNone(any(-600, 600));
        due.is(at + " leg", x.leg(d, r, g, miles, other, sun), y.leg(d, r, g, miles, other, sun));
    }
}
