import java.util.ArrayList;
import java.util.Arrays;
import java.util.List;
import java.util.function.Supplier;

/**
 * Part 6, for every promise: the last value that is taken and the first one that is refused on each
 * side, of two refusals at once the one that is told first, and that what is refused changes nothing.
 */
public final class RefusalsTest {
    private static final Due due = new Due();
    private static final int UNKNOWN = Due.UNKNOWN, BAD = Due.BAD, STATE = Due.STATE, FULL = Due.FULL, NONE = Due.NONE;
    /** Stands for any answer that is no refusal. */
    private static final int TAKEN = 0;
    /** So many refused calls and the reading of all still fit into the 512 calls of one object. */
    private static final int AT_ONCE = 90;

    /** What an argument may be, and what is answered if it is something else. */
    private record Arg(int code, int least, int most, boolean orNone) {
        List<Integer> outside() {
            List<Integer> values = new ArrayList<>(List.of(least - 1, most + 1, Integer.MIN_VALUE, Integer.MAX_VALUE));
            if (orNone) {
                values.add(NONE - 1);
                values.add(NONE + 1);
            }
            return values;
        }

        List<Integer> ends() {
            return orNone ? List.of(least, most, NONE) : List.of(least, most);
        }
    }

    private interface Call {
        int on(FooledNeedle x, int[] a);
    }

    private final String name;
    private final Supplier<FooledNeedle> made;
    private final Call call;
    private final int answer;
    private final int[] good;
    private final Arg[] args;
    private final List<int[]> refused = new ArrayList<>();

    private RefusalsTest(String name, Supplier<FooledNeedle> made, Call call, int answer, int[] good, Arg[] args) {
        this.name = name;
        this.made = made;
        this.call = call;
        this.answer = answer;
        this.good = good;
        this.args = args;
    }

    public static void main(String[] args) {
        waves();
        swings();
        magnets();
        places();
        voyages();
        emptyVoyage();
        fullVoyage();
        due.end();
    }

    private static void row(String name, Supplier<FooledNeedle> made, Call call, int answer, int[] good, Arg... args) {
        due.about(name);
        RefusalsTest row = new RefusalsTest(name, made, call, answer, good, args);
        row.goodOnes();
        row.oneOutside();
        row.twoOutside();
        row.nothingChanged();
    }

    private static Arg unknown(int least, int most) {
        return new Arg(UNKNOWN, least, most, false);
    }

    private static Arg bad(int least, int most) {
        return new Arg(BAD, least, most, false);
    }

    private static Arg badOrNone(int least, int most) {
        return new Arg(BAD, least, most, true);
    }

    private static int[] with(int... values) {
        return values;
    }

    private static String told(int[] a) {
        return Arrays.toString(a);
    }

    private static boolean isRefusal(int answer) {
        return answer <= UNKNOWN && answer >= FULL;
    }

    private void goodOnes() {
        int got = call.on(made.get(), good);
        if (answer == TAKEN) {
            due.holds(name + told(good) + " is taken, it answered " + got, !isRefusal(got) && got != NONE);
        } else {
            due.is(name + told(good), got, answer);
            refused.add(good);
        }
        for (int i = 0; i < args.length; i++) {
            for (int end : args[i].ends()) {
                int[] a = good.clone();
                a[i] = end;
                int at = call.on(made.get(), a);
                due.holds(name + told(a) + " is neither UNKNOWN nor BAD, it answered " + at, at != UNKNOWN && at != BAD);
            }
        }
    }

    private void oneOutside() {
        for (int i = 0; i < args.length; i++) {
            for (int v : args[i].outside()) {
                int[] a = good.clone();
                a[i] = v;
                refused.add(a);
            }
        }
    }

    private void twoOutside() {
        for (int i = 0; i < args.length; i++) {
            for (int j = i + 1; j < args.length; j++) {
                for (int v : args[i].outside()) {
                    for (int w : args[j].outside()) {
                        int[] a = good.clone();
                        a[i] = v;
                        a[j] = w;
                        refused.add(a);
                    }
                }
            }
        }
    }

    /** UNKNOWN is told ahead of BAD, and BAD ahead of what the state refuses. */
    private int dueFor(int[] a) {
        int first = answer;
        for (int i = 0; i < args.length; i++) {
            boolean inside = (a[i] >= args[i].least && a[i] <= args[i].most) || (args[i].orNone && a[i] == NONE);
            if (!inside && first != UNKNOWN) {
                first = args[i].code;
            }
        }
        return first;
    }

    private void nothingChanged() {
        List<Integer> before = Whole.of(made.get());
        for (int from = 0; from < refused.size(); from += AT_ONCE) {
            FooledNeedle x = made.get();
            for (int[] a : refused.subList(from, Math.min(refused.size(), from + AT_ONCE))) {
                due.is(name + told(a), call.on(x, a), dueFor(a));
            }
            due.holds(name + " refused changes nothing", before.equals(Whole.of(x)));
        }
    }

    private static void waves() {
        Supplier<FooledNeedle> ship = Ship::made;
        Arg compass = unknown(0, 2);
        Arg part = unknown(0, 5);
        Arg heading = unknown(0, 31);
        Arg round = bad(0, 3199);
        Arg heel = bad(-30, 30);
        row("2 sine", ship, (x, a) -> x.sine(a[0], false), TAKEN, with(7), round);
        row("2 sine, cosine", ship, (x, a) -> x.sine(a[0], true), TAKEN, with(7), round);
        row("3 way", ship, (x, a) -> x.way(a[0], a[1]), TAKEN, with(7, 8), round, round);
        row("4 part", ship, (x, a) -> x.part(a[0], a[1], a[2]), TAKEN, with(1, 2, 3), compass, part, bad(-999, 999));
        row("5 told", ship, (x, a) -> x.told(a[0], a[1]), TAKEN, with(1, 2), compass, part);
        row("6 error", ship, (x, a) -> x.error(a[0], a[1], a[2]), TAKEN, with(1, 2, 3), compass, heading, heel);
        row("7 errorAt", ship, (x, a) -> x.errorAt(a[0], a[1], a[2]), TAKEN, with(1, 2, 3), compass, round, heel);
        row("8 trueOf", ship, (x, a) -> x.trueOf(a[0], a[1], a[2]), TAKEN, with(1, 2, 3), compass, round, heel);
        row("9 steer", ship, (x, a) -> x.steer(a[0], a[1], a[2]), TAKEN, with(1, 2, 3), compass, round, heel);
        row("10 worst", ship, (x, a) -> x.worst(a[0]), TAKEN, with(1), compass);
        row("11 worstAt", ship, (x, a) -> x.worstAt(a[0]), TAKEN, with(1), compass);
        row("12 twofold", ship, (x, a) -> x.twofold(a[0]), TAKEN, with(1), compass);
    }

    private static void swings() {
        Supplier<FooledNeedle> ship = Ship::made;
        Arg compass = unknown(0, 2);
        Arg heading = unknown(0, 31);
        Call see = (x, a) -> x.see(a[0], a[1], a[2]);
        row("13 see", ship, see, TAKEN, with(0, 5, 3), compass, heading, bad(-600, 600));
        row("14 forget", ship, (x, a) -> x.forget(a[0], a[1]), TAKEN, with(0, 5), compass, heading);
        row("14 forget, nothing was", ship, (x, a) -> x.forget(a[0], a[1]), STATE, with(0, 6), compass, heading);
        row("15 seen", ship, (x, a) -> x.seen(a[0]), TAKEN, with(1), compass);
        row("16 filled", ship, (x, a) -> x.filled(a[0], a[1]), TAKEN, with(1, 6), compass, heading);
        row("16 filled, nothing at all", ship, (x, a) -> x.filled(a[0], a[1]), STATE, with(2, 6), compass, heading);
        row("17 gap", ship, (x, a) -> x.gap(a[0]), TAKEN, with(2), compass);
        row("18 apart", ship, (x, a) -> x.apart(a[0]), TAKEN, with(0), compass);
        row("18 apart, three seen", ship, (x, a) -> x.apart(a[0]), STATE, with(1), compass);
        row("18 apart, none seen", ship, (x, a) -> x.apart(a[0]), STATE, with(2), compass);
        row("19 residue", ship, (x, a) -> x.residue(a[0], a[1]), TAKEN, with(0, 5), compass, heading);
        row("19 residue, nothing was", ship, (x, a) -> x.residue(a[0], a[1]), NONE, with(0, 6), compass, heading);
    }

    private static void magnets() {
        Supplier<FooledNeedle> ship = Ship::made;
        Arg bar = unknown(0, 5);
        Arg ball = unknown(0, 3);
        Arg strength = bad(0, 30000);
        Arg size = bad(0, 20);
        row("20 bar", ship, (x, a) -> x.bar(a[0], a[1]), TAKEN, with(2, 8), bar, strength);
        row("20 bar, laid", ship, (x, a) -> x.bar(a[0], a[1]), STATE, with(1, 8), bar, strength);
        row("20 bar, laid, as it was", ship, (x, a) -> x.bar(a[0], a[1]), STATE, with(1, 3000), bar, strength);
        row("21 ball", ship, (x, a) -> x.ball(a[0], a[1]), TAKEN, with(1, 8), ball, size);
        row("21 ball, laid", ship, (x, a) -> x.ball(a[0], a[1]), STATE, with(0, 8), ball, size);
        row("21 ball, laid, as it was", ship, (x, a) -> x.ball(a[0], a[1]), STATE, with(0, 6), ball, size);
        Call layBar = (x, a) -> x.layBar(a[0], a[1], a[2], a[3] != 0);
        row("22 layBar", ship, layBar, TAKEN, with(2, 1, 5, 0), bar, bad(0, 1), bad(2, 9));
        row("22 layBar, laid", ship, layBar, TAKEN, with(1, 0, 5, 1), bar, bad(0, 1), bad(2, 9));
        row("22 layBar, not in the store", ship, layBar, STATE, with(3, 1, 5, 1), bar, bad(0, 1), bad(2, 9));
        Call layBall = (x, a) -> x.layBall(a[0], a[1]);
        row("23 layBall", ship, layBall, TAKEN, with(3, 2), ball, bad(2, 20));
        row("23 layBall, not in the store", ship, layBall, STATE, with(2, 20), ball, bad(2, 20));
        row("23 layBall, size above slot", ship, layBall, STATE, with(1, 19), ball, bad(2, 20));
        row("23 layBall, laid, size above slot", ship, layBall, STATE, with(0, 5), ball, bad(2, 20));
        row("25 leftOf", ship, (x, a) -> x.leftOf(a[0]), TAKEN, with(1), unknown(0, 5));
        row("26 left", ship, (x, a) -> x.left(a[0]), TAKEN, with(1), unknown(0, 31));
        row("28 bestCode", ship, (x, a) -> x.bestCode(a[0]), TAKEN, with(1), bad(0, 3));
    }

    private static void places() {
        Supplier<FooledNeedle> ship = Ship::made;
        Arg compass = unknown(0, 2);
        Arg heading = unknown(0, 31);
        Arg place = unknown(0, 7);
        Call getsHAndZ = (x, a) -> x.place(a[0], a[1], a[2]);
        row("30 place", ship, getsHAndZ, TAKEN, with(1, 50, 60), place, bad(1, 999), bad(-999, 999));
        row("31 note", ship, (x, a) -> x.note(a[0], a[1]), TAKEN, with(1, 2), compass, place);
        Call b = (x, a) -> x.foretold(a[0], a[1], a[2], a[3], false);
        Call c = (x, a) -> x.foretold(a[0], a[1], a[2], a[3], true);
        row("32 foretold B", ship, b, TAKEN, with(1, 2, 0, 7), compass, place, place, place);
        row("32 foretold C", ship, c, TAKEN, with(1, 2, 0, 7), compass, place, place, place);
        Call error = (x, a) -> x.foretoldError(a[0], a[1], a[2], a[3], a[4]);
        row("33 foretoldError", ship, error, TAKEN, with(1, 9, 2, 0, 7), compass, heading, place, place, place);
        int[][] cannot = {{0, 1, 4, 0}, {0, 1, 0, 4}, {1, 1, 2, 0}, {0, 1, 2, 3}, {0, 1, 7, 7}, {0, 1, 4, 4}};
        String[] why = {"no note at one", "no note at two", "a note of another", "Z alike", "one alone", "one alone, no note"};
        for (int i = 0; i < cannot.length; i++) {
            int[] a = cannot[i];
            int[] e = with(a[0], 9, a[1], a[2], a[3]);
            row("32 foretold B, " + why[i], ship, b, STATE, a, compass, place, place, place);
            row("32 foretold C, " + why[i], ship, c, STATE, a, compass, place, place, place);
            row("33 foretoldError, " + why[i], ship, error, STATE, e, compass, heading, place, place, place);
        }
    }

    private static void voyages() {
        Supplier<FooledNeedle> ship = Ship::made;
        Arg part = unknown(0, 5);
        Arg day = bad(0, 999);
        Arg leg = unknown(0, 3);
        Arg mile = bad(-9999, 9999);
        Call event = (x, a) -> x.event(a[0], a[1], a[2], a[3]);
        row("34 event", ship, event, TAKEN, with(7, 10, 2, 30), unknown(0, 19), day, part, bad(-300, 300));
        row("34 event, none", ship, event, TAKEN, with(7, 10, 2, 0), unknown(0, 19), day, part, bad(-300, 300));
        row("35 asOf", ship, (x, a) -> x.asOf(a[0], a[1]), TAKEN, with(1, 10), part, day);
        row("36 leg", ship, RefusalsTest::legOf, TAKEN, with(999, 1, 2, 3, 4, 5), legArgs());
        row("36 leg, no other, no sun", ship, RefusalsTest::legOf, TAKEN, with(998, 1, 2, 3, NONE, NONE), legArgs());
        row("36 leg, a day less", ship, RefusalsTest::legOf, STATE, with(997, 1, 2, 3, 4, 5), legArgs());
        row("37 about", ship, (x, a) -> x.about(a[0], a[1]), TAKEN, with(0, 8), leg, bad(0, 8));
        row("37 about, no sun", ship, (x, a) -> x.about(a[0], a[1]), NONE, with(2, 7), leg, bad(0, 8));
        row("37 about, no other", ship, (x, a) -> x.about(a[0], a[1]), NONE, with(1, 8), leg, bad(0, 8));
        Call north = (x, a) -> x.worked(a[0], a[1], a[2], false);
        Call east = (x, a) -> x.worked(a[0], a[1], a[2], true);
        row("39 worked north", ship, north, TAKEN, with(2, 500, 7), unknown(0, 4), bad(0, 1000), bad(-1600, 1599));
        row("39 worked east", ship, east, TAKEN, with(4, 500, 7), unknown(0, 4), bad(0, 1000), bad(-1600, 1599));
        row("42 jump", ship, (x, a) -> x.jump(a[0]), TAKEN, with(1), bad(0, 2));
        row("43 firstApart", ship, (x, a) -> x.firstApart(a[0]), TAKEN, with(0), bad(0, 1600));
        row("43 firstApart, none", ship, (x, a) -> x.firstApart(a[0]), NONE, with(1600), bad(0, 1600));
        row("44 nearer", ship, (x, a) -> x.nearer(a[0]), TAKEN, with(3), leg);
        row("44 nearer, no other", ship, (x, a) -> x.nearer(a[0]), STATE, with(1), leg);
        row("44 nearer, no sun", ship, (x, a) -> x.nearer(a[0]), STATE, with(2), leg);
        row("45 wreck", ship, (x, a) -> x.wreck(a[0], a[1], a[2]), TAKEN, with(9, 8, 1), mile, mile, bad(0, 2));
        row("46 count", ship, (x, a) -> x.count(a[0]), TAKEN, with(1), bad(0, 5));
    }

    private static int legOf(FooledNeedle x, int[] a) {
        return x.leg(a[0], a[1], a[2], a[3], a[4], a[5]);
    }

    private static Arg[] legArgs() {
        return new Arg[] {bad(0, 999), bad(0, 3199), bad(-30, 30), bad(0, 300), badOrNone(0, 3199), badOrNone(-600, 600)};
    }

    private static void emptyVoyage() {
        Supplier<FooledNeedle> home = Ship::atHome;
        Arg mile = bad(-9999, 9999);
        row("36 leg, the first", home, RefusalsTest::legOf, TAKEN, with(0, 1, 2, 3, 4, 5), legArgs());
        row("37 about, no leg", home, (x, a) -> x.about(a[0], 0), UNKNOWN, with(0));
        row("37 about, no leg, bad", home, (x, a) -> x.about(a[0], 9), UNKNOWN, with(0));
        Call worked = (x, a) -> x.worked(a[0], a[1], a[2], true);
        row("39 worked, no leg", home, worked, TAKEN, with(0, 0, 0), unknown(0, 0), bad(0, 1000), bad(-1600, 1599));
        row("40 split, no leg", home, (x, a) -> x.split(), NONE, with());
        row("41 splitCost, no leg", home, (x, a) -> x.splitCost(), NONE, with());
        row("42 jump, no leg", home, (x, a) -> x.jump(a[0]), NONE, with(1), bad(0, 2));
        row("43 firstApart, no leg", home, (x, a) -> x.firstApart(a[0]), NONE, with(0), bad(0, 1600));
        row("44 nearer, no leg", home, (x, a) -> x.nearer(a[0]), UNKNOWN, with(0));
        row("45 wreck, no leg", home, (x, a) -> x.wreck(a[0], a[1], a[2]), NONE, with(9, 8, 1), mile, mile, bad(0, 2));
    }

    private static void fullVoyage() {
        Supplier<FooledNeedle> full = Ship::withAllLegs;
        row("36 leg, full", full, RefusalsTest::legOf, FULL, with(500, 1, 2, 3, 4, 5), legArgs());
        row("36 leg, full, no other, no sun", full, RefusalsTest::legOf, FULL, with(999, 1, 2, 3, NONE, NONE), legArgs());
        row("36 leg, full and a day less", full, RefusalsTest::legOf, STATE, with(499, 1, 2, 3, 4, 5), legArgs());
        row("37 about, full", full, (x, a) -> x.about(a[0], a[1]), TAKEN, with(39, 6), unknown(0, 39), bad(0, 8));
        Call worked = (x, a) -> x.worked(a[0], a[1], a[2], true);
        row("39 worked, full", full, worked, TAKEN, with(40, 0, 0), unknown(0, 40), bad(0, 1000), bad(-1600, 1599));
        row("44 nearer, full", full, (x, a) -> x.nearer(a[0]), STATE, with(39), unknown(0, 39));
    }
}
