import java.util.Arrays;

/**
 * A needle fooled by iron: compasses and their errors, swings, magnets, places and voyages.
 * Ways round are told in hundredths of a point, 3200 to the round.
 */
public final class FooledNeedle {
    public static final int UNKNOWN = -2001, BAD = -2002, STATE = -2003, FULL = -2004, NONE = -2009;

    private static final int COMPASSES = 3, HEADINGS = 32, POINT = 100, ROUND = 3200, HALF_ROUND = 1600;
    private static final int PARTS = 6, A = 0, B = 1, C = 2, D = 3, E = 4, J = 5, PART_MOST = 999;
    private static final int HEEL_MOST = 30, SEEN_MOST = 600, SWING_LEAST = 4;
    private static final int BARS = 6, STRENGTH_MOST = 30000, AXES = 2, SLOT_LEAST = 2, BAR_SLOT_MOST = 9;
    private static final int BALLS = 4, SIZE_MOST = 20, BALL_SLOT_MOST = 20;
    private static final int CODES_OF_BAR = 16, BAR_CODES = 97, CODES_OF_BALL = 19, BALL_CODES = 77;
    private static final int PLACES = 8, FORCE_MOST = 999, FORETOLD_MOST = 9999;
    private static final int EVENTS = 20, DAY_MOST = 999, PUT_MOST = 300;
    private static final int LEGS = 40, MILES_MOST = 300, NORTH_MOST = 9999, MILE = 1000;
    private static final int WRECK_JUMP_MOST = 300, WRECK_JUMP_STEP = 20;
    // Above any that can be: two squares of 9999 and 12000 miles together are less than half of it.
    private static final int SQUARES_ABOVE_ALL = 2000000000;

    private final Card[] cards = new Card[COMPASSES];
    private final Swing[] swings = new Swing[COMPASSES];
    private final Store store = new Store();
    private final Laying laying = new Laying();
    private final Places places = new Places();
    private final Events events = new Events();
    private final Legs legs = new Legs();
    private final Split parting = new Split();
    private final Wreck search = new Wreck();
    // One card for all that is worked out with other parts than those told: left, foretold, as of a day.
    private final Card worksheet = new Card();
    private final int[] drawn = new int[HEADINGS];
    private final int[] hits = new int[HEADINGS];

    public FooledNeedle() {
        for (int compass = 0; compass < COMPASSES; compass++) {
            cards[compass] = new Card();
            swings[compass] = new Swing();
        }
    }

    // ---- waves, compasses

    public int sine(int r, boolean cosine) {
        if (!isReading(r)) {
            return BAD;
        }
        return cosine ? Waves.cosineAt(r) : Waves.sineAt(r);
    }

    public int way(int from, int to) {
        if (!isReading(from) || !isReading(to)) {
            return BAD;
        }
        return Waves.wayFrom(from, to);
    }

    public int part(int compass, int part, int v) {
        if (!isCompass(compass) || !isPart(part)) {
            return UNKNOWN;
        }
        if (!within(v, -PART_MOST, PART_MOST)) {
            return BAD;
        }
        int was = cards[compass].parts[part];
        cards[compass].parts[part] = v;
        return was;
    }

    public int told(int compass, int part) {
        if (!isCompass(compass) || !isPart(part)) {
            return UNKNOWN;
        }
        return cards[compass].parts[part];
    }

    public int error(int compass, int heading, int g) {
        if (!isCompass(compass) || !isHeading(heading)) {
            return UNKNOWN;
        }
        if (!isHeel(g)) {
            return BAD;
        }
        return cards[compass].errorOn(heading, g);
    }

    public int errorAt(int compass, int r, int g) {
        if (!isCompass(compass)) {
            return UNKNOWN;
        }
        if (!isReading(r) || !isHeel(g)) {
            return BAD;
        }
        return cards[compass].errorOfReading(r, g);
    }

    public int trueOf(int compass, int r, int g) {
        if (!isCompass(compass)) {
            return UNKNOWN;
        }
        if (!isReading(r) || !isHeel(g)) {
            return BAD;
        }
        return cards[compass].trueOfReading(r, g);
    }

    public int steer(int compass, int t, int g) {
        if (!isCompass(compass)) {
            return UNKNOWN;
        }
        if (!isReading(t) || !isHeel(g)) {
            return BAD;
        }
        cards[compass].draw(drawn, g);
        int bestReading = 0;
        int bestWay = ROUND;
        for (int r = 0; r < ROUND; r++) {
            int size = Math.abs(Waves.wayFrom(drawnTrue(r), t));
            if (size < bestWay) {
                bestWay = size;
                bestReading = r;
            }
        }
        return bestReading;
    }

    public int worst(int compass) {
        if (!isCompass(compass)) {
            return UNKNOWN;
        }
        return Math.abs(cards[compass].errorOn(cards[compass].worstHeading(), 0));
    }

    public int worstAt(int compass) {
        if (!isCompass(compass)) {
            return UNKNOWN;
        }
        return cards[compass].worstHeading();
    }

    public int twofold(int compass) {
        if (!isCompass(compass)) {
            return UNKNOWN;
        }
        cards[compass].draw(drawn, 0);
        Arrays.fill(hits, 0);
        for (int r = 0; r < ROUND; r++) {
            int course = drawnTrue(r);
            if (course % POINT == 0) {
                hits[course / POINT]++;
            }
        }
        int many = 0;
        for (int heading = 0; heading < HEADINGS; heading++) {
            if (hits[heading] > 1) {
                many++;
            }
        }
        return many;
    }

    // ---- swings

    public int see(int compass, int heading, int error) {
        if (!isCompass(compass) || !isHeading(heading)) {
            return UNKNOWN;
        }
        if (!within(error, -SEEN_MOST, SEEN_MOST)) {
            return BAD;
        }
        return swings[compass].write(heading, error);
    }

    public int forget(int compass, int heading) {
        if (!isCompass(compass) || !isHeading(heading)) {
            return UNKNOWN;
        }
        if (!swings[compass].has(heading)) {
            return STATE;
        }
        swings[compass].write(heading, NONE);
        return 1;
    }

    public int seen(int compass) {
        if (!isCompass(compass)) {
            return UNKNOWN;
        }
        return swings[compass].howMany;
    }

    public int filled(int compass, int heading) {
        if (!isCompass(compass) || !isHeading(heading)) {
            return UNKNOWN;
        }
        if (swings[compass].howMany == 0) {
            return STATE;
        }
        return swings[compass].fill(heading);
    }

    public int gap(int compass) {
        if (!isCompass(compass)) {
            return UNKNOWN;
        }
        return swings[compass].longestGap();
    }

    public int apart(int compass) {
        if (!isCompass(compass)) {
            return UNKNOWN;
        }
        if (swings[compass].howMany < SWING_LEAST) {
            return STATE;
        }
        swings[compass].takeApart(cards[compass]);
        int greatest = 0;
        for (int heading = 0; heading < HEADINGS; heading++) {
            if (swings[compass].has(heading)) {
                greatest = Math.max(greatest, Math.abs(residueOn(compass, heading)));
            }
        }
        return greatest;
    }

    public int residue(int compass, int heading) {
        if (!isCompass(compass) || !isHeading(heading)) {
            return UNKNOWN;
        }
        return swings[compass].has(heading) ? residueOn(compass, heading) : NONE;
    }

    // ---- magnets

    public int bar(int bar, int strength) {
        if (!isBar(bar)) {
            return UNKNOWN;
        }
        if (!within(strength, 0, STRENGTH_MOST)) {
            return BAD;
        }
        if (store.isBarLaid(bar)) {
            return STATE;
        }
        int was = store.strengths[bar];
        store.strengths[bar] = strength;
        return was;
    }

    public int ball(int ball, int size) {
        if (!isBall(ball)) {
            return UNKNOWN;
        }
        if (!within(size, 0, SIZE_MOST)) {
            return BAD;
        }
        if (store.laidBall == ball) {
            return STATE;
        }
        int was = store.sizes[ball];
        store.sizes[ball] = size;
        return was;
    }

    public int layBar(int bar, int axis, int slot, boolean turned) {
        if (!isBar(bar)) {
            return UNKNOWN;
        }
        if (!within(axis, 0, AXES - 1) || !within(slot, SLOT_LEAST, BAR_SLOT_MOST)) {
            return BAD;
        }
        if (store.strengths[bar] == 0) {
            return STATE;
        }
        store.setBar(bar, axis, slot, turned);
        return Store.pullOfBar(store.strengths[bar], slot);
    }

    public int layBall(int ball, int slot) {
        if (!isBall(ball)) {
            return UNKNOWN;
        }
        if (!within(slot, SLOT_LEAST, BALL_SLOT_MOST)) {
            return BAD;
        }
        if (store.sizes[ball] == 0 || store.sizes[ball] > slot) {
            return STATE;
        }
        store.setBall(ball, slot);
        return Store.pullOfBall(store.sizes[ball], slot);
    }

    public int takeUp() {
        int many = store.howManyLaid();
        store.clearLaid();
        return many;
    }

    public int leftOf(int part) {
        if (!isPart(part)) {
            return UNKNOWN;
        }
        return leftCard().parts[part];
    }

    public int left(int heading) {
        if (!isHeading(heading)) {
            return UNKNOWN;
        }
        return leftCard().errorOn(heading, 0);
    }

    public int best() {
        laying.find(cards[0].parts, store);
        return laying.restInAll();
    }

    public int bestCode(int what) {
        if (!within(what, 0, 3)) {
            return BAD;
        }
        laying.find(cards[0].parts, store);
        switch (what) {
            case 0:
                return laying.foreAndAft;
            case 1:
                return laying.athwart;
            case 2:
                return laying.balls;
            default:
                return laying.magnetsInAll();
        }
    }

    public int layBest() {
        laying.find(cards[0].parts, store);
        store.clearLaid();
        store.setBarByCode(laying.foreAndAft, 0);
        store.setBarByCode(laying.athwart, 1);
        store.setBallByCode(laying.balls);
        return laying.restInAll();
    }

    // ---- places

    public int place(int place, int h, int z) {
        if (!isPlace(place)) {
            return UNKNOWN;
        }
        if (!within(h, 1, FORCE_MOST) || !within(z, -FORCE_MOST, FORCE_MOST)) {
            return BAD;
        }
        places.across[place] = h;
        places.down[place] = z;
        return 1;
    }

    public int note(int compass, int place) {
        if (!isCompass(compass) || !isPlace(place)) {
            return UNKNOWN;
        }
        places.write(compass, place, cards[compass]);
        return 1;
    }

    public int foretold(int compass, int place, int one, int two, boolean c) {
        if (!isCompass(compass) || !isPlace(place) || !isPlace(one) || !isPlace(two)) {
            return UNKNOWN;
        }
        if (!places.canForetell(compass, one, two)) {
            return STATE;
        }
        return places.foretell(c ? places.notedC : places.notedB, compass, place, one, two);
    }

    public int foretoldError(int compass, int heading, int place, int one, int two) {
        if (!isCompass(compass) || !isHeading(heading)) {
            return UNKNOWN;
        }
        if (!isPlace(place) || !isPlace(one) || !isPlace(two)) {
            return UNKNOWN;
        }
        if (!places.canForetell(compass, one, two)) {
            return STATE;
        }
        worksheet.copyFrom(cards[compass]);
        worksheet.parts[B] = places.foretell(places.notedB, compass, place, one, two);
        worksheet.parts[C] = places.foretell(places.notedC, compass, place, one, two);
        return worksheet.errorOn(heading, 0);
    }

    // ---- voyages

    public int event(int event, int day, int part, int v) {
        if (!within(event, 0, EVENTS - 1) || !isPart(part)) {
            return UNKNOWN;
        }
        if (!isDay(day) || !within(v, -PUT_MOST, PUT_MOST)) {
            return BAD;
        }
        return events.write(event, day, part, v);
    }

    public int asOf(int part, int day) {
        if (!isPart(part)) {
            return UNKNOWN;
        }
        if (!isDay(day)) {
            return BAD;
        }
        return cardOfDay(day).parts[part];
    }

    public int leg(int day, int r, int g, int miles, int other, int sun) {
        if (!isDay(day) || !isReading(r) || !isHeel(g) || !within(miles, 0, MILES_MOST)) {
            return BAD;
        }
        if (other != NONE && !isReading(other)) {
            return BAD;
        }
        if (sun != NONE && !within(sun, -SEEN_MOST, SEEN_MOST)) {
            return BAD;
        }
        if (day < legs.lastDay()) {
            return STATE;
        }
        if (legs.howMany >= LEGS) {
            return FULL;
        }
        return legs.add(day, r, g, miles, other, sun);
    }

    public int about(int leg, int what) {
        if (!isLeg(leg)) {
            return UNKNOWN;
        }
        switch (what) {
            case 0:
                return legs.days[leg];
            case 1:
                return legs.readings[leg];
            case 2:
                return legs.heels[leg];
            case 3:
                return legs.miles[leg];
            case 4:
                return legs.others[leg];
            case 5:
                return legs.suns[leg];
            case 6:
                return courseOf(leg);
            case 7:
                return legs.suns[leg] == NONE ? NONE : sunRestOf(leg);
            case 8:
                return legs.others[leg] == NONE ? NONE : waysApart(leg);
            default:
                return BAD;
        }
    }

    public int home() {
        int many = legs.howMany;
        legs.howMany = 0;
        return many;
    }

    public int worked(int n, int day, int s, boolean east) {
        if (!within(n, 0, legs.howMany)) {
            return UNKNOWN;
        }
        if (!within(day, 0, DAY_MOST + 1) || !within(s, -HALF_ROUND, HALF_ROUND - 1)) {
            return BAD;
        }
        int sum = 0;
        for (int leg = 0; leg < n; leg++) {
            int put = legs.days[leg] >= day ? s : 0;
            int course = Math.floorMod(courseOf(leg) + put, ROUND);
            sum += legs.miles[leg] * (east ? Waves.sineAt(course) : Waves.cosineAt(course));
        }
        return sum;
    }

    public int split() {
        findSplit();
        return parting.howMany == 0 ? NONE : parting.first;
    }

    public int splitCost() {
        findSplit();
        return parting.howMany == 0 ? NONE : parting.cost;
    }

    public int jump(int what) {
        if (!within(what, 0, 2)) {
            return BAD;
        }
        findSplit();
        if (!parting.isOnBothSides()) {
            return NONE;
        }
        switch (what) {
            case 0:
                return parting.jumpBetween();
            case 1:
                return legs.days[parting.numbers[parting.first - 1]];
            default:
                return legs.days[parting.numbers[parting.first]];
        }
    }

    public int firstApart(int limit) {
        if (!within(limit, 0, HALF_ROUND)) {
            return BAD;
        }
        for (int leg = 0; leg < legs.howMany; leg++) {
            if (legs.others[leg] != NONE && Math.abs(waysApart(leg)) > limit) {
                return leg;
            }
        }
        return NONE;
    }

    public int nearer(int leg) {
        if (!isLeg(leg)) {
            return UNKNOWN;
        }
        if (legs.suns[leg] == NONE || legs.others[leg] == NONE) {
            return STATE;
        }
        int bySun = Math.floorMod(legs.readings[leg] + legs.suns[leg], ROUND);
        int offZero = Math.abs(Waves.wayFrom(bySun, courseOf(leg)));
        int offOne = Math.abs(Waves.wayFrom(bySun, trueByOther(leg)));
        if (offZero == offOne) {
            return 2;
        }
        return offZero < offOne ? 0 : 1;
    }

    public int wreck(int north, int east, int what) {
        if (!within(north, -NORTH_MOST, NORTH_MOST) || !within(east, -NORTH_MOST, NORTH_MOST)) {
            return BAD;
        }
        if (!within(what, 0, 2)) {
            return BAD;
        }
        if (legs.howMany == 0) {
            return NONE;
        }
        for (int leg = 0; leg < legs.howMany; leg++) {
            search.courses[leg] = courseOf(leg);
        }
        search.find(legs, north, east);
        switch (what) {
            case 0:
                return search.day;
            case 1:
                return search.jumped;
            default:
                return search.squares;
        }
    }

    public int count(int what) {
        switch (what) {
            case 0:
                return legs.howMany;
            case 1:
                return store.howManyLaid();
            case 2:
                return store.howManyStored();
            case 3:
                return events.howMany();
            case 4:
                return places.howManyNotes();
            case 5:
                return legs.milesRun();
            default:
                return BAD;
        }
    }

    // ---- what the calls share

    private static boolean within(int v, int least, int most) {
        return v >= least && v <= most;
    }

    private static boolean isCompass(int compass) {
        return within(compass, 0, COMPASSES - 1);
    }

    private static boolean isHeading(int heading) {
        return within(heading, 0, HEADINGS - 1);
    }

    private static boolean isPart(int part) {
        return within(part, 0, PARTS - 1);
    }

    private static boolean isReading(int r) {
        return within(r, 0, ROUND - 1);
    }

    private static boolean isHeel(int g) {
        return within(g, -HEEL_MOST, HEEL_MOST);
    }

    private static boolean isBar(int bar) {
        return within(bar, 0, BARS - 1);
    }

    private static boolean isBall(int ball) {
        return within(ball, 0, BALLS - 1);
    }

    private static boolean isPlace(int place) {
        return within(place, 0, PLACES - 1);
    }

    private static boolean isDay(int day) {
        return within(day, 0, DAY_MOST);
    }

    private boolean isLeg(int leg) {
        return within(leg, 0, legs.howMany - 1);
    }

    private int drawnTrue(int r) {
        int heading = r / POINT;
        int error = Waves.between(drawn[heading], drawn[(heading + 1) % HEADINGS], r % POINT);
        return Math.floorMod(r + error, ROUND);
    }

    private int residueOn(int compass, int heading) {
        return swings[compass].errors[heading] - cards[compass].errorOn(heading, 0);
    }

    private Card leftCard() {
        worksheet.copyFrom(cards[0]);
        worksheet.parts[B] -= store.pullOnAxis(0);
        worksheet.parts[C] -= store.pullOnAxis(1);
        worksheet.parts[D] -= store.pullOfLaidBall();
        return worksheet;
    }

    private Card cardOfDay(int day) {
        worksheet.copyFrom(cards[0]);
        events.putTo(worksheet, day);
        return worksheet;
    }

    private int courseOf(int leg) {
        return cardOfDay(legs.days[leg]).trueOfReading(legs.readings[leg], legs.heels[leg]);
    }

    private int trueByOther(int leg) {
        return cards[1].trueOfReading(legs.others[leg], legs.heels[leg]);
    }

    private int waysApart(int leg) {
        return Waves.wayFrom(courseOf(leg), trueByOther(leg));
    }

    private int sunRestOf(int leg) {
        Card card = cardOfDay(legs.days[leg]);
        return legs.suns[leg] - card.errorOfReading(legs.readings[leg], legs.heels[leg]);
    }

    private void findSplit() {
        parting.howMany = 0;
        for (int leg = 0; leg < legs.howMany; leg++) {
            if (legs.suns[leg] != NONE) {
                parting.add(leg, sunRestOf(leg));
            }
        }
        parting.find();
    }

    /** Sines, roundings and ways round. */
    private static final class Waves {
        private static final int[] SINES = {
            0, 195, 383, 556, 707, 831, 924, 981, 1000, 981, 924, 831, 707, 556, 383, 195,
            0, -195, -383, -556, -707, -831, -924, -981, -1000, -981, -924, -831, -707, -556, -383, -195
        };

        static int sin(int p) {
            return SINES[p & (HEADINGS - 1)];
        }

        static int cos(int p) {
            return SINES[(p + HEADINGS / 4) & (HEADINGS - 1)];
        }

        static long rounded(long a, long b) {
            if (b <= 0) {
                return 0;
            }
            return Math.floorDiv(2 * a + b, 2 * b);
        }

        static int between(int here, int next, int k) {
            return (int) rounded((long) here * (POINT - k) + (long) next * k, POINT);
        }

        static int sineAt(int r) {
            int heading = r / POINT;
            return between(sin(heading), sin(heading + 1), r % POINT);
        }

        // A quarter of the round is whole headings, so the cosine lies as far between two as r does.
        static int cosineAt(int r) {
            int heading = r / POINT;
            return between(cos(heading), cos(heading + 1), r % POINT);
        }

        static int wayFrom(int from, int to) {
            return Math.floorMod(to - from + HALF_ROUND, ROUND) - HALF_ROUND;
        }
    }

    /** The parts of a compass, and the errors that they make. */
    private static final class Card {
        final int[] parts = new int[PARTS];

        void copyFrom(Card other) {
            System.arraycopy(other.parts, 0, parts, 0, PARTS);
        }

        int errorOn(int heading, int g) {
            int once = parts[B] * Waves.sin(heading) + parts[C] * Waves.cos(heading);
            int twice = parts[D] * Waves.sin(2 * heading) + parts[E] * Waves.cos(2 * heading);
            int heeling = parts[J] * Waves.cos(heading) * g / 10;
            return parts[A] + (int) Waves.rounded((long) once + twice + heeling, 1000);
        }

        int errorOfReading(int r, int g) {
            int heading = r / POINT;
            return Waves.between(errorOn(heading, g), errorOn((heading + 1) % HEADINGS, g), r % POINT);
        }

        int trueOfReading(int r, int g) {
            return Math.floorMod(r + errorOfReading(r, g), ROUND);
        }

        void draw(int[] errors, int g) {
            for (int heading = 0; heading < errors.length; heading++) {
                errors[heading] = errorOn(heading, g);
            }
        }

        int worstHeading() {
            int worstSize = -1;
            int where = 0;
            for (int heading = 0; heading < HEADINGS; heading++) {
                int size = Math.abs(errorOn(heading, 0));
                if (size > worstSize) {
                    worstSize = size;
                    where = heading;
                }
            }
            return where;
        }
    }

    /** Errors seen by heading; NONE stands where nothing was seen. */
    private static final class Swing {
        final int[] errors = new int[HEADINGS];
        int howMany = 0;

        Swing() {
            for (int heading = 0; heading < HEADINGS; heading++) {
                errors[heading] = NONE;
            }
        }

        boolean has(int heading) {
            return errors[heading] != NONE;
        }

        int write(int heading, int error) {
            int was = errors[heading];
            errors[heading] = error;
            howMany += (error == NONE ? 0 : 1) - (was == NONE ? 0 : 1);
            return was;
        }

        /** How many headings to the next one seen, going round by step; 0 if there is none. */
        private int stepsToSeen(int heading, int step) {
            for (int steps = 1; steps <= HEADINGS; steps++) {
                if (has(Math.floorMod(heading + steps * step, HEADINGS))) {
                    return steps;
                }
            }
            return 0;
        }

        int fill(int heading) {
            if (has(heading)) {
                return errors[heading];
            }
            int u = stepsToSeen(heading, -1);
            int v = stepsToSeen(heading, 1);
            int behind = errors[Math.floorMod(heading - u, HEADINGS)];
            int ahead = errors[Math.floorMod(heading + v, HEADINGS)];
            return (int) Waves.rounded((long) behind * v + (long) ahead * u, u + v);
        }

        int longestGap() {
            if (howMany == 0) {
                return HEADINGS;
            }
            int longest = 0;
            int row = 0;
            // Twice round, so that a row over north is met whole.
            for (int step = 0; step < 2 * HEADINGS; step++) {
                row = has(step % HEADINGS) ? 0 : row + 1;
                longest = Math.max(longest, row);
            }
            return longest;
        }

        void takeApart(Card card) {
            int a = 0;
            int b = 0;
            int c = 0;
            int d = 0;
            int e = 0;
            for (int heading = 0; heading < HEADINGS; heading++) {
                int error = fill(heading);
                a += error;
                b += error * Waves.sin(heading);
                c += error * Waves.cos(heading);
                d += error * Waves.sin(2 * heading);
                e += error * Waves.cos(2 * heading);
            }
            card.parts[A] = asPart(a, 32);
            card.parts[B] = asPart(b, 16000);
            card.parts[C] = asPart(c, 16000);
            card.parts[D] = asPart(d, 16000);
            card.parts[E] = asPart(e, 16000);
        }

        private static int asPart(int sum, int by) {
            long part = Waves.rounded(sum, by);
            return (int) Math.max(-PART_MOST, Math.min(PART_MOST, part));
        }
    }

    /** The bars and balls that there are, and how they are laid. */
    private static final class Store {
        final int[] strengths = new int[BARS];
        final int[] sizes = new int[BALLS];
        // A slot of 0 says that the bar is not laid.
        private final int[] barSlots = new int[BARS];
        private final int[] barAxes = new int[BARS];
        private final boolean[] barTurned = new boolean[BARS];
        int laidBall = NONE;
        private int ballSlot = 0;

        static int pullOfBar(int strength, int slot) {
            return slot <= 0 ? 0 : strength / (slot * slot * slot);
        }

        static int pullOfBall(int size, int slot) {
            return slot <= 0 ? 0 : 20 * size * size / slot;
        }

        boolean isBarLaid(int bar) {
            return barSlots[bar] != 0;
        }

        void setBar(int bar, int axis, int slot, boolean turned) {
            barAxes[bar] = axis;
            barSlots[bar] = slot;
            barTurned[bar] = turned;
        }

        void setBall(int ball, int slot) {
            laidBall = ball;
            ballSlot = slot;
        }

        void setBarByCode(int code, int axis) {
            int bar = barOfCode(code);
            if (isBar(bar)) {
                setBar(bar, axis, barSlotOfCode(code), isTurnedCode(code));
            }
        }

        void setBallByCode(int code) {
            int ball = ballOfCode(code);
            if (isBall(ball)) {
                setBall(ball, ballSlotOfCode(code));
            }
        }

        void clearLaid() {
            Arrays.fill(barSlots, 0);
            laidBall = NONE;
            ballSlot = 0;
        }

        int howManyLaid() {
            int many = laidBall == NONE ? 0 : 1;
            for (int bar = 0; bar < BARS; bar++) {
                many += isBarLaid(bar) ? 1 : 0;
            }
            return many;
        }

        int howManyStored() {
            int many = 0;
            for (int bar = 0; bar < BARS; bar++) {
                many += strengths[bar] == 0 ? 0 : 1;
            }
            for (int ball = 0; ball < BALLS; ball++) {
                many += sizes[ball] == 0 ? 0 : 1;
            }
            return many;
        }

        int pullOnAxis(int axis) {
            int pull = 0;
            for (int bar = 0; bar < BARS; bar++) {
                if (isBarLaid(bar) && barAxes[bar] == axis) {
                    int one = pullOfBar(strengths[bar], barSlots[bar]);
                    pull += barTurned[bar] ? -one : one;
                }
            }
            return pull;
        }

        int pullOfLaidBall() {
            return isBall(laidBall) ? pullOfBall(sizes[laidBall], ballSlot) : 0;
        }

        static int barOfCode(int code) {
            return code <= 0 ? NONE : (code - 1) / CODES_OF_BAR;
        }

        static int barSlotOfCode(int code) {
            return SLOT_LEAST + (code - 1) % CODES_OF_BAR / 2;
        }

        static boolean isTurnedCode(int code) {
            return (code - 1) % 2 == 1;
        }

        static int ballOfCode(int code) {
            return code <= 0 ? NONE : (code - 1) / CODES_OF_BALL;
        }

        static int ballSlotOfCode(int code) {
            return SLOT_LEAST + (code - 1) % CODES_OF_BALL;
        }

        /** Whether the magnet of a code is there to be laid; code 0, none, always is. */
        boolean hasBarOfCode(int code) {
            int bar = barOfCode(code);
            return !isBar(bar) || strengths[bar] != 0;
        }

        boolean hasBallOfCode(int code) {
            int ball = ballOfCode(code);
            return !isBall(ball) || (sizes[ball] != 0 && sizes[ball] <= ballSlotOfCode(code));
        }

        int pullOfBarCode(int code) {
            int bar = barOfCode(code);
            if (!isBar(bar)) {
                return 0;
            }
            int pull = pullOfBar(strengths[bar], barSlotOfCode(code));
            return isTurnedCode(code) ? -pull : pull;
        }

        int pullOfBallCode(int code) {
            int ball = ballOfCode(code);
            return isBall(ball) ? pullOfBall(sizes[ball], ballSlotOfCode(code)) : 0;
        }
    }

    /**
     * The best laying. Balls act on D alone and bars never do, so the best of each, by rest and then
     * by how many, are together the best of all.
     */
    private static final class Laying {
        private final int[] pulls = new int[BAR_CODES];
        private final boolean[] there = new boolean[BAR_CODES];
        int foreAndAft = 0;
        int athwart = 0;
        int balls = 0;
        private int barRest = 0;
        private int barMagnets = 0;
        private int ballRest = 0;
        private int ballMagnets = 0;

        int restInAll() {
            return barRest + ballRest;
        }

        int magnetsInAll() {
            return barMagnets + ballMagnets;
        }

        void find(int[] parts, Store store) {
            for (int code = 0; code < BAR_CODES; code++) {
                there[code] = store.hasBarOfCode(code);
                pulls[code] = store.pullOfBarCode(code);
            }
            findBars(parts[B], parts[C]);
            findBalls(parts[D], store);
        }

        private void findBars(int b, int c) {
            foreAndAft = 0;
            athwart = 0;
            barMagnets = 0;
            barRest = Math.abs(b) + Math.abs(c);
            for (int code = 0; code < BAR_CODES; code++) {
                if (there[code]) {
                    findAthwart(code, Math.abs(b - pulls[code]), c);
                }
            }
        }

        /** Codes come the least first, so of like layings the one found first stays. */
        private void findAthwart(int fore, int foreRest, int c) {
            int foreBar = Store.barOfCode(fore);
            for (int code = 0; code < BAR_CODES; code++) {
                boolean same = code != 0 && Store.barOfCode(code) == foreBar;
                if (there[code] && !same) {
                    int rest = foreRest + Math.abs(c - pulls[code]);
                    int magnets = (fore == 0 ? 0 : 1) + (code == 0 ? 0 : 1);
                    if (rest < barRest || (rest == barRest && magnets < barMagnets)) {
                        barRest = rest;
                        barMagnets = magnets;
                        foreAndAft = fore;
                        athwart = code;
                    }
                }
            }
        }

        private void findBalls(int d, Store store) {
            balls = 0;
            ballMagnets = 0;
            ballRest = Math.abs(d);
            for (int code = 1; code < BALL_CODES; code++) {
                int rest = Math.abs(d - store.pullOfBallCode(code));
                if (rest < ballRest && store.hasBallOfCode(code)) {
                    ballRest = rest;
                    ballMagnets = 1;
                    balls = code;
                }
            }
        }
    }

    /** The earth's force at places, and what was noted there of each compass. */
    private static final class Places {
        final int[] across = new int[PLACES];
        final int[] down = new int[PLACES];
        final int[] notedB = new int[COMPASSES * PLACES];
        final int[] notedC = new int[COMPASSES * PLACES];
        private final boolean[] noted = new boolean[COMPASSES * PLACES];

        Places() {
            for (int place = 0; place < PLACES; place++) {
                across[place] = 100;
            }
        }

        void write(int compass, int place, Card card) {
            int at = compass * PLACES + place;
            noted[at] = true;
            notedB[at] = card.parts[B];
            notedC[at] = card.parts[C];
        }

        boolean canForetell(int compass, int one, int two) {
            boolean both = noted[compass * PLACES + one] && noted[compass * PLACES + two];
            return both && down[one] != down[two];
        }

        int foretell(int[] notes, int compass, int place, int one, int two) {
            long first = (long) notes[compass * PLACES + one] * across[one];
            long second = (long) notes[compass * PLACES + two] * across[two];
            long run = down[one] - down[two];
            long top = first * run + (first - second) * (down[place] - down[one]);
            long bottom = across[place] * run;
            // What rounds takes only divisors above 0.
            long found = bottom < 0 ? Waves.rounded(-top, -bottom) : Waves.rounded(top, bottom);
            return (int) Math.max(-FORETOLD_MOST, Math.min(FORETOLD_MOST, found));
        }

        int howManyNotes() {
            int many = 0;
            for (int at = 0; at < noted.length; at++) {
                many += noted[at] ? 1 : 0;
            }
            return many;
        }
    }

    /** What cargo and lightning put to the parts; what puts 0 is no event. */
    private static final class Events {
        private final int[] days = new int[EVENTS];
        private final int[] parts = new int[EVENTS];
        private final int[] puts = new int[EVENTS];

        int write(int event, int day, int part, int put) {
            int was = puts[event];
            days[event] = day;
            parts[event] = part;
            puts[event] = put;
            return was;
        }

        void putTo(Card card, int day) {
            for (int event = 0; event < EVENTS; event++) {
                if (days[event] <= day) {
                    card.parts[parts[event]] += puts[event];
                }
            }
        }

        int howMany() {
            int many = 0;
            for (int event = 0; event < EVENTS; event++) {
                many += puts[event] == 0 ? 0 : 1;
            }
            return many;
        }
    }

    /** The legs of the voyage as they were told. */
    private static final class Legs {
        final int[] days = new int[LEGS];
        final int[] readings = new int[LEGS];
        final int[] heels = new int[LEGS];
        final int[] miles = new int[LEGS];
        final int[] others = new int[LEGS];
        final int[] suns = new int[LEGS];
        int howMany = 0;

        int lastDay() {
            return howMany == 0 ? 0 : days[howMany - 1];
        }

        int add(int day, int reading, int heel, int run, int other, int sun) {
            int leg = howMany;
            days[leg] = day;
            readings[leg] = reading;
            heels[leg] = heel;
            miles[leg] = run;
            others[leg] = other;
            suns[leg] = sun;
            howMany = leg + 1;
            return leg;
        }

        int milesRun() {
            int run = 0;
            for (int leg = 0; leg < howMany; leg++) {
                run += miles[leg];
            }
            return run;
        }
    }

    /** The rests of the legs with the sun, split where it costs least. */
    private static final class Split {
        final int[] numbers = new int[LEGS];
        private final int[] rests = new int[LEGS];
        private final int[] ordered = new int[LEGS];
        int howMany = 0;
        int first = 0;
        int cost = 0;

        void add(int leg, int rest) {
            if (howMany < LEGS) {
                numbers[howMany] = leg;
                rests[howMany] = rest;
                howMany++;
            }
        }

        void find() {
            first = 0;
            cost = costOf(0, howMany);
            for (int k = 1; k <= howMany; k++) {
                int both = costOf(0, k) + costOf(k, howMany);
                if (both < cost) {
                    cost = both;
                    first = k;
                }
            }
        }

        boolean isOnBothSides() {
            return first > 0 && first < howMany;
        }

        int jumpBetween() {
            return middle(first, howMany) - middle(0, first);
        }

        private int costOf(int from, int to) {
            int middle = middle(from, to);
            int far = 0;
            for (int at = from; at < to; at++) {
                far += Math.abs(rests[at] - middle);
            }
            return far;
        }

        private int middle(int from, int to) {
            int many = 0;
            for (int at = from; at < to; at++) {
                int hole = many;
                while (hole > 0 && ordered[hole - 1] > rests[at]) {
                    ordered[hole] = ordered[hole - 1];
                    hole--;
                }
                ordered[hole] = rests[at];
                many++;
            }
            return many == 0 ? 0 : ordered[(many - 1) / 2];
        }
    }

    /** The jump that brings the end of a voyage nearest to where the wreck lies. */
    private static final class Wreck {
        final int[] courses = new int[LEGS];
        int day = 0;
        int jumped = 0;
        int squares = 0;

        void find(Legs legs, int placeNorth, int placeEast) {
            squares = SQUARES_ABOVE_ALL;
            for (int s = -WRECK_JUMP_MOST; s <= WRECK_JUMP_MOST; s += WRECK_JUMP_STEP) {
                findDay(legs, s, placeNorth, placeEast);
            }
        }

        /** Starts with all courses put off by s, and puts one leg after the other right again. */
        private void findDay(Legs legs, int s, int placeNorth, int placeEast) {
            int north = 0;
            int east = 0;
            for (int leg = 0; leg < legs.howMany; leg++) {
                int off = Math.floorMod(courses[leg] + s, ROUND);
                north += legs.miles[leg] * Waves.cosineAt(off);
                east += legs.miles[leg] * Waves.sineAt(off);
            }
            for (int leg = 0; leg < legs.howMany; leg++) {
                if (leg == 0 || legs.days[leg] != legs.days[leg - 1]) {
                    weigh(legs.days[leg], s, placeNorth - north / MILE, placeEast - east / MILE);
                }
                int right = courses[leg];
                int off = Math.floorMod(right + s, ROUND);
                north += legs.miles[leg] * (Waves.cosineAt(right) - Waves.cosineAt(off));
                east += legs.miles[leg] * (Waves.sineAt(right) - Waves.sineAt(off));
            }
        }

        /** Jumps come the least first, so only an earlier day takes a like one's place. */
        private void weigh(int fromDay, int s, int offNorth, int offEast) {
            int left = offNorth * offNorth + offEast * offEast;
            if (left < squares || (left == squares && fromDay < day)) {
                squares = left;
                day = fromDay;
                jumped = s;
            }
        }
    }
}
