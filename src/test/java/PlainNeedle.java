import java.math.BigInteger;
import java.util.ArrayList;
import java.util.Collections;
import java.util.List;
import java.util.TreeMap;
import java.util.TreeSet;

/**
 * The document once more, word by word and with no heed for time or room, for RunsTest to compare
 * with. It shares no code and no way of working with the class.
 */
final class PlainNeedle {
    private static final int UNKNOWN = -2001, BAD = -2002, STATE = -2003, FULL = -2004, NONE = -2009;

    private record Laid(int axis, int slot, boolean turned) {}
    private record Leg(int day, int r, int g, int miles, int other, int sun) {}
    private record Event(int day, int part, int v) {}

    private final int[][] parts = new int[3][6];
    private final List<TreeMap<Integer, Integer>> swings = List.of(new TreeMap<>(), new TreeMap<>(), new TreeMap<>());
    private final TreeMap<Integer, Integer> bars = new TreeMap<>();
    private final TreeMap<Integer, Integer> balls = new TreeMap<>();
    private final TreeMap<Integer, Laid> laidBars = new TreeMap<>();
    private final TreeMap<Integer, Integer> laidBalls = new TreeMap<>();
    private final int[][] places = new int[8][];
    private final TreeMap<String, int[]> notes = new TreeMap<>();
    private final TreeMap<Integer, Event> events = new TreeMap<>();
    private final List<Leg> legs = new ArrayList<>();

    PlainNeedle() {
        for (int p = 0; p < 8; p++) {
            places[p] = new int[] {100, 0};
        }
    }

    private static boolean out(long v, long least, long most) {
        return v < least || v > most;
    }

    private static long rounded(long a, long b) {
        BigInteger top = BigInteger.valueOf(a).shiftLeft(1).add(BigInteger.valueOf(b));
        BigInteger[] both = top.divideAndRemainder(BigInteger.valueOf(b).shiftLeft(1));
        return both[1].signum() < 0 ? both[0].longValueExact() - 1 : both[0].longValueExact();
    }

    private static int sin(int p) {
        int q = ((p % 32) + 32) % 32;
        if (q > 16) {
            return -sin(q - 16);
        }
        if (q > 8) {
            return sin(16 - q);
        }
        return new int[] {0, 195, 383, 556, 707, 831, 924, 981, 1000}[q];
    }

    private static int cos(int p) {
        return sin(p + 8);
    }

    private interface ByHeading {
        long at(int heading);
    }

    private static int between(ByHeading told, int r) {
        int h = 31;
        while (100 * h > r) {
            h--;
        }
        int k = r - 100 * h;
        return (int) rounded(told.at(h) * (100 - k) + told.at(h == 31 ? 0 : h + 1) * k, 100);
    }

    private static int round(int r) {
        while (r < 0) {
            r += 3200;
        }
        while (r >= 3200) {
            r -= 3200;
        }
        return r;
    }

    private static int theWay(int a, int b) {
        for (int w = -1600; w <= 1599; w++) {
            if (round(a + w) == b) {
                return w;
            }
        }
        throw new IllegalStateException();
    }

    private static int theError(int[] p, int h, int g) {
        long heel = (long) p[5] * cos(h) * g / 10;
        return (int) (p[0] + rounded((long) p[1] * sin(h) + (long) p[2] * cos(h) + (long) p[3] * sin(2 * h)
            + (long) p[4] * cos(2 * h) + heel, 1000));
    }

    private static int errorBetween(int[] p, int r, int g) {
        return between(h -> theError(p, h, g), r);
    }

    private static int theTrue(int[] p, int r, int g) {
        return round(r + errorBetween(p, r, g));
    }

    int sine(int r, boolean cosine) {
        if (out(r, 0, 3199)) {
            return BAD;
        }
        return between(PlainNeedle::sin, cosine ? round(r + 800) : r);
    }

    int way(int from, int to) {
        return out(from, 0, 3199) || out(to, 0, 3199) ? BAD : theWay(from, to);
    }

    int part(int compass, int part, int v) {
        if (out(compass, 0, 2) || out(part, 0, 5)) {
            return UNKNOWN;
        }
        if (out(v, -999, 999)) {
            return BAD;
        }
        int was = parts[compass][part];
        parts[compass][part] = v;
        return was;
    }

    int told(int compass, int part) {
        return out(compass, 0, 2) || out(part, 0, 5) ? UNKNOWN : parts[compass][part];
    }

    int error(int compass, int heading, int g) {
        if (out(compass, 0, 2) || out(heading, 0, 31)) {
            return UNKNOWN;
        }
        return out(g, -30, 30) ? BAD : theError(parts[compass], heading, g);
    }

    int errorAt(int compass, int r, int g) {
        if (out(compass, 0, 2)) {
            return UNKNOWN;
        }
        return out(r, 0, 3199) || out(g, -30, 30) ? BAD : errorBetween(parts[compass], r, g);
    }

    int trueOf(int compass, int r, int g) {
        if (out(compass, 0, 2)) {
            return UNKNOWN;
        }
        return out(r, 0, 3199) || out(g, -30, 30) ? BAD : theTrue(parts[compass], r, g);
    }

    int steer(int compass, int t, int g) {
        if (out(compass, 0, 2)) {
            return UNKNOWN;
        }
        if (out(t, 0, 3199) || out(g, -30, 30)) {
            return BAD;
        }
        int best = -1;
        int bestOff = 9999;
        for (int r = 3199; r >= 0; r--) {
            int off = Math.abs(theTrue(parts[compass], r, g) - t);
            off = Math.min(off, 3200 - off);
            if (off <= bestOff) {
                bestOff = off;
                best = r;
            }
        }
        return best;
    }

    int worst(int compass) {
        if (out(compass, 0, 2)) {
            return UNKNOWN;
        }
        int most = 0;
        for (int h = 0; h < 32; h++) {
            most = Math.max(most, Math.abs(theError(parts[compass], h, 0)));
        }
        return most;
    }

    int worstAt(int compass) {
        if (out(compass, 0, 2)) {
            return UNKNOWN;
        }
        int h = 0;
        while (Math.abs(theError(parts[compass], h, 0)) != worst(compass)) {
            h++;
        }
        return h;
    }

    int twofold(int compass) {
        if (out(compass, 0, 2)) {
            return UNKNOWN;
        }
        TreeMap<Integer, Integer> readings = new TreeMap<>();
        for (int r = 0; r < 3200; r++) {
            readings.merge(theTrue(parts[compass], r, 0), 1, Integer::sum);
        }
        int many = 0;
        for (int t = 0; t < 3200; t += 100) {
            many += readings.getOrDefault(t, 0) > 1 ? 1 : 0;
        }
        return many;
    }

    int see(int compass, int heading, int error) {
        if (out(compass, 0, 2) || out(heading, 0, 31)) {
            return UNKNOWN;
        }
        if (out(error, -600, 600)) {
            return BAD;
        }
        Integer was = swings.get(compass).put(heading, error);
        return was == null ? NONE : was;
    }

    int forget(int compass, int heading) {
        if (out(compass, 0, 2) || out(heading, 0, 31)) {
            return UNKNOWN;
        }
        return swings.get(compass).remove(heading) == null ? STATE : 1;
    }

    int seen(int compass) {
        return out(compass, 0, 2) ? UNKNOWN : swings.get(compass).size();
    }

    private int fill(TreeMap<Integer, Integer> swing, int heading) {
        if (swing.containsKey(heading)) {
            return swing.get(heading);
        }
        int below = swing.lowerKey(heading) == null ? swing.lastKey() - 32 : swing.lowerKey(heading);
        int above = swing.higherKey(heading) == null ? swing.firstKey() + 32 : swing.higherKey(heading);
        int u = heading - below;
        int v = above - heading;
        return (int) rounded((long) swing.get((below + 32) % 32) * v + (long) swing.get(above % 32) * u, u + v);
    }

    int filled(int compass, int heading) {
        if (out(compass, 0, 2) || out(heading, 0, 31)) {
            return UNKNOWN;
        }
        return swings.get(compass).isEmpty() ? STATE : fill(swings.get(compass), heading);
    }

    int gap(int compass) {
        if (out(compass, 0, 2)) {
            return UNKNOWN;
        }
        int longest = 0;
        for (int from = 0; from < 32; from++) {
            int row = 0;
            while (row < 32 && !swings.get(compass).containsKey((from + row) % 32)) {
                row++;
            }
            longest = Math.max(longest, row);
        }
        return longest;
    }

    int apart(int compass) {
        if (out(compass, 0, 2)) {
            return UNKNOWN;
        }
        TreeMap<Integer, Integer> swing = swings.get(compass);
        if (swing.size() < 4) {
            return STATE;
        }
        ByHeading[] waves = {h -> 1, h -> sin(h), h -> cos(h), h -> sin(2 * h), h -> cos(2 * h)};
        for (int part = 0; part < 5; part++) {
            long sum = 0;
            for (int h = 0; h < 32; h++) {
                sum += fill(swing, h) * waves[part].at(h);
            }
            long found = rounded(sum, part == 0 ? 32 : 16000);
            parts[compass][part] = (int) Math.max(-999, Math.min(999, found));
        }
        int most = 0;
        for (int h : swing.keySet()) {
            most = Math.max(most, Math.abs(residue(compass, h)));
        }
        return most;
    }

    int residue(int compass, int heading) {
        if (out(compass, 0, 2) || out(heading, 0, 31)) {
            return UNKNOWN;
        }
        Integer seen = swings.get(compass).get(heading);
        return seen == null ? NONE : seen - theError(parts[compass], heading, 0);
    }

    int bar(int bar, int strength) {
        return store(bars, 6, 30000, laidBars.containsKey(bar), bar, strength);
    }

    int ball(int ball, int size) {
        return store(balls, 4, 20, laidBalls.containsKey(ball), ball, size);
    }

    private static int store(TreeMap<Integer, Integer> of, int many, int most, boolean laid, int number, int v) {
        if (out(number, 0, many - 1)) {
            return UNKNOWN;
        }
        if (out(v, 0, most)) {
            return BAD;
        }
        if (laid) {
            return STATE;
        }
        Integer was = v == 0 ? of.remove(number) : of.put(number, v);
        return was == null ? 0 : was;
    }

    private int barPull(int bar, Laid laid) {
        return bars.get(bar) / (laid.slot() * laid.slot() * laid.slot());
    }

    int layBar(int bar, int axis, int slot, boolean turned) {
        if (out(bar, 0, 5)) {
            return UNKNOWN;
        }
        if (out(axis, 0, 1) || out(slot, 2, 9)) {
            return BAD;
        }
        if (!bars.containsKey(bar)) {
            return STATE;
        }
        laidBars.put(bar, new Laid(axis, slot, turned));
        return barPull(bar, laidBars.get(bar));
    }

    int layBall(int ball, int slot) {
        if (out(ball, 0, 3)) {
            return UNKNOWN;
        }
        if (out(slot, 2, 20)) {
            return BAD;
        }
        if (!balls.containsKey(ball) || balls.get(ball) > slot) {
            return STATE;
        }
        laidBalls.clear();
        laidBalls.put(ball, slot);
        return 20 * balls.get(ball) * balls.get(ball) / slot;
    }

    int takeUp() {
        int many = laidBars.size() + laidBalls.size();
        laidBars.clear();
        laidBalls.clear();
        return many;
    }

    private int[] withLaid() {
        int[] left = parts[0].clone();
        for (int bar : laidBars.keySet()) {
            Laid laid = laidBars.get(bar);
            left[1 + laid.axis()] += laid.turned() ? barPull(bar, laid) : -barPull(bar, laid);
        }
        for (int ball : laidBalls.keySet()) {
            left[3] -= 20 * balls.get(ball) * balls.get(ball) / laidBalls.get(ball);
        }
        return left;
    }

    int leftOf(int part) {
        return out(part, 0, 5) ? UNKNOWN : withLaid()[part];
    }

    int left(int heading) {
        return out(heading, 0, 31) ? UNKNOWN : theError(withLaid(), heading, 0);
    }

    /** Rest, magnets, the three codes: the least row of them all, and what each stands for. */
    private int[] bestRow() {
        List<int[]> barWays = new ArrayList<>();
        barWays.add(new int[] {0, -1, 0, 0, 0});
        for (int bar : bars.keySet()) {
            for (int slot = 2; slot <= 9; slot++) {
                for (int turned = 0; turned <= 1; turned++) {
                    int pull = bars.get(bar) / (slot * slot * slot) * (turned == 1 ? -1 : 1);
                    barWays.add(new int[] {1 + 16 * bar + 2 * (slot - 2) + turned, bar, slot, turned, pull});
                }
            }
        }
        List<int[]> ballWays = new ArrayList<>();
        ballWays.add(new int[] {0, -1, 0, 0});
        for (int ball : balls.keySet()) {
            for (int slot = Math.max(2, balls.get(ball)); slot <= 20; slot++) {
                int pull = 20 * balls.get(ball) * balls.get(ball) / slot;
                ballWays.add(new int[] {1 + 19 * ball + slot - 2, ball, slot, pull});
            }
        }
        int[] best = null;
        for (int[] fore : barWays) {
            for (int[] athwart : barWays) {
                if (fore[0] != 0 && fore[1] == athwart[1]) {
                    continue;
                }
                for (int[] ball : ballWays) {
                    int rest = Math.abs(parts[0][1] - fore[4]) + Math.abs(parts[0][2] - athwart[4])
                        + Math.abs(parts[0][3] - ball[3]);
                    int magnets = Math.min(1, fore[0]) + Math.min(1, athwart[0]) + Math.min(1, ball[0]);
                    int[] row = {rest, magnets, fore[0], athwart[0], ball[0], fore[1], fore[2], fore[3],
                        athwart[1], athwart[2], athwart[3], ball[1], ball[2]};
                    if (best == null || less(row, best, 5)) {
                        best = row;
                    }
                }
            }
        }
        return best;
    }

    private static boolean less(int[] a, int[] b, int upTo) {
        for (int i = 0; i < upTo; i++) {
            if (a[i] != b[i]) {
                return a[i] < b[i];
            }
        }
        return false;
    }

    int best() {
        return bestRow()[0];
    }

    int bestCode(int what) {
        return out(what, 0, 3) ? BAD : bestRow()[new int[] {2, 3, 4, 1}[what]];
    }

    int layBest() {
        int[] row = bestRow();
        takeUp();
        if (row[5] >= 0) {
            layBar(row[5], 0, row[6], row[7] == 1);
        }
        if (row[8] >= 0) {
            layBar(row[8], 1, row[9], row[10] == 1);
        }
        if (row[11] >= 0) {
            layBall(row[11], row[12]);
        }
        return row[0];
    }

    int place(int place, int h, int z) {
        if (out(place, 0, 7)) {
            return UNKNOWN;
        }
        if (out(h, 1, 999) || out(z, -999, 999)) {
            return BAD;
        }
        places[place] = new int[] {h, z};
        return 1;
    }

    int note(int compass, int place) {
        if (out(compass, 0, 2) || out(place, 0, 7)) {
            return UNKNOWN;
        }
        notes.put(compass + " " + place, new int[] {parts[compass][1], parts[compass][2]});
        return 1;
    }

    private boolean cannotForetell(int compass, int one, int two) {
        return !notes.containsKey(compass + " " + one) || !notes.containsKey(compass + " " + two)
            || places[one][1] == places[two][1];
    }

    /** Lagrange's form of the straight line through both, over one divisor. */
    private int line(int compass, int place, int one, int two, int which) {
        long y1 = (long) notes.get(compass + " " + one)[which] * places[one][0];
        long y2 = (long) notes.get(compass + " " + two)[which] * places[two][0];
        long z1 = places[one][1];
        long z2 = places[two][1];
        long z = places[place][1];
        long top = y1 * (z - z2) - y2 * (z - z1);
        long bottom = (z1 - z2) * places[place][0];
        long sign = bottom < 0 ? -1 : 1;
        return (int) Math.max(-9999, Math.min(9999, rounded(sign * top, sign * bottom)));
    }

    int foretold(int compass, int place, int one, int two, boolean c) {
        if (out(compass, 0, 2) || out(place, 0, 7) || out(one, 0, 7) || out(two, 0, 7)) {
            return UNKNOWN;
        }
        return cannotForetell(compass, one, two) ? STATE : line(compass, place, one, two, c ? 1 : 0);
    }

    int foretoldError(int compass, int heading, int place, int one, int two) {
        if (out(compass, 0, 2) || out(heading, 0, 31) || out(place, 0, 7) || out(one, 0, 7) || out(two, 0, 7)) {
            return UNKNOWN;
        }
        if (cannotForetell(compass, one, two)) {
            return STATE;
        }
        int[] p = parts[compass].clone();
        p[1] = line(compass, place, one, two, 0);
        p[2] = line(compass, place, one, two, 1);
        return theError(p, heading, 0);
    }

    int event(int event, int day, int part, int v) {
        if (out(event, 0, 19) || out(part, 0, 5)) {
            return UNKNOWN;
        }
        if (out(day, 0, 999) || out(v, -300, 300)) {
            return BAD;
        }
        Event was = v == 0 ? events.remove(event) : events.put(event, new Event(day, part, v));
        return was == null ? 0 : was.v();
    }

    private int[] partsAsOf(int day) {
        int[] p = parts[0].clone();
        for (Event event : events.values()) {
            p[event.part()] += event.day() <= day ? event.v() : 0;
        }
        return p;
    }

    int asOf(int part, int day) {
        if (out(part, 0, 5)) {
            return UNKNOWN;
        }
        return out(day, 0, 999) ? BAD : partsAsOf(day)[part];
    }

    int leg(int day, int r, int g, int miles, int other, int sun) {
        boolean bad = out(day, 0, 999) || out(r, 0, 3199) || out(g, -30, 30) || out(miles, 0, 300)
            || (other != NONE && out(other, 0, 3199)) || (sun != NONE && out(sun, -600, 600));
        if (bad) {
            return BAD;
        }
        if (!legs.isEmpty() && legs.get(legs.size() - 1).day() > day) {
            return STATE;
        }
        if (legs.size() == 40) {
            return FULL;
        }
        legs.add(new Leg(day, r, g, miles, other, sun));
        return legs.size() - 1;
    }

    private int course(Leg leg) {
        return theTrue(partsAsOf(leg.day()), leg.r(), leg.g());
    }

    private int rest(Leg leg) {
        return leg.sun() - errorBetween(partsAsOf(leg.day()), leg.r(), leg.g());
    }

    private int howApart(Leg leg) {
        return theWay(course(leg), theTrue(parts[1], leg.other(), leg.g()));
    }

    int about(int number, int what) {
        if (out(number, 0, legs.size() - 1)) {
            return UNKNOWN;
        }
        if (out(what, 0, 8)) {
            return BAD;
        }
        Leg leg = legs.get(number);
        return switch (what) {
            case 0 -> leg.day();
            case 1 -> leg.r();
            case 2 -> leg.g();
            case 3 -> leg.miles();
            case 4 -> leg.other();
            case 5 -> leg.sun();
            case 6 -> course(leg);
            case 7 -> leg.sun() == NONE ? NONE : rest(leg);
            default -> leg.other() == NONE ? NONE : howApart(leg);
        };
    }

    int home() {
        int many = legs.size();
        legs.clear();
        return many;
    }

    private int end(int[] courses, int n, int day, int s, boolean east) {
        int sum = 0;
        for (int i = 0; i < n; i++) {
            int c = legs.get(i).day() >= day ? round(courses[i] + s) : courses[i];
            sum += legs.get(i).miles() * sine(c, !east);
        }
        return sum;
    }

    private int[] courses() {
        return legs.stream().mapToInt(this::course).toArray();
    }

    int worked(int n, int day, int s, boolean east) {
        if (out(n, 0, legs.size())) {
            return UNKNOWN;
        }
        return out(day, 0, 1000) || out(s, -1600, 1599) ? BAD : end(courses(), n, day, s, east);
    }

    private List<Leg> sunLegs() {
        return legs.stream().filter(leg -> leg.sun() != NONE).toList();
    }

    private int middle(List<Leg> of) {
        List<Integer> rests = new ArrayList<>(of.stream().map(this::rest).toList());
        Collections.sort(rests);
        return rests.get((rests.size() - 1) / 2);
    }

    private int costOf(List<Leg> of) {
        if (of.isEmpty()) {
            return 0;
        }
        int middle = middle(of);
        return of.stream().mapToInt(leg -> Math.abs(rest(leg) - middle)).sum();
    }

    /** k and its cost. */
    private int[] theSplit() {
        List<Leg> all = sunLegs();
        int[] best = {-1, Integer.MAX_VALUE};
        for (int k = all.size(); k >= 0; k--) {
            int cost = costOf(all.subList(0, k)) + costOf(all.subList(k, all.size()));
            if (cost <= best[1]) {
                best = new int[] {k, cost};
            }
        }
        return best;
    }

    int split() {
        return sunLegs().isEmpty() ? NONE : theSplit()[0];
    }

    int splitCost() {
        return sunLegs().isEmpty() ? NONE : theSplit()[1];
    }

    int jump(int what) {
        if (out(what, 0, 2)) {
            return BAD;
        }
        List<Leg> all = sunLegs();
        int k = theSplit()[0];
        if (k == 0 || k == all.size()) {
            return NONE;
        }
        return switch (what) {
            case 0 -> middle(all.subList(k, all.size())) - middle(all.subList(0, k));
            case 1 -> all.get(k - 1).day();
            default -> all.get(k).day();
        };
    }

    int firstApart(int limit) {
        if (out(limit, 0, 1600)) {
            return BAD;
        }
        for (int i = 0; i < legs.size(); i++) {
            if (legs.get(i).other() != NONE && Math.abs(howApart(legs.get(i))) > limit) {
                return i;
            }
        }
        return NONE;
    }

    int nearer(int number) {
        if (out(number, 0, legs.size() - 1)) {
            return UNKNOWN;
        }
        Leg leg = legs.get(number);
        if (leg.sun() == NONE || leg.other() == NONE) {
            return STATE;
        }
        int sun = round(leg.r() + leg.sun());
        int zero = Math.abs(theWay(course(leg), sun));
        int one = Math.abs(theWay(theTrue(parts[1], leg.other(), leg.g()), sun));
        return zero == one ? 2 : zero < one ? 0 : 1;
    }

    int wreck(int north, int east, int what) {
        if (out(north, -9999, 9999) || out(east, -9999, 9999) || out(what, 0, 2)) {
            return BAD;
        }
        if (legs.isEmpty()) {
            return NONE;
        }
        int[] courses = courses();
        TreeSet<Integer> days = new TreeSet<>();
        legs.forEach(leg -> days.add(leg.day()));
        long[] best = null;
        for (int day : days) {
            for (int s = -300; s <= 300; s += 20) {
                long n = north - end(courses, legs.size(), day, s, false) / 1000;
                long e = east - end(courses, legs.size(), day, s, true) / 1000;
                if (best == null || n * n + e * e < best[2]) {
                    best = new long[] {day, s, n * n + e * e};
                }
            }
        }
        return (int) best[what];
    }

    int count(int what) {
        return switch (what) {
            case 0 -> legs.size();
            case 1 -> laidBars.size() + laidBalls.size();
            case 2 -> bars.size() + balls.size();
            case 3 -> events.size();
            case 4 -> notes.size();
            case 5 -> legs.stream().mapToInt(Leg::miles).sum();
            default -> BAD;
        };
    }
}
