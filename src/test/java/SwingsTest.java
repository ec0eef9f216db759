/** Promises 13 to 19. */
public final class SwingsTest {
    private static final Due due = new Due();

    public static void main(String[] args) {
        seeAndForget();
        filled();
        gap();
        apart();
        residue();
        due.end();
    }

    private static void seeAndForget() {
        FooledNeedle x = new FooledNeedle();
        due.is("see first", x.see(2, 31, 600), Due.NONE);
        due.is("see again", x.see(2, 31, -600), 600);
        due.is("seen once", x.seen(2), 1);
        due.is("see 0", x.see(2, 0, 0), Due.NONE);
        due.is("see 0 again", x.see(2, 0, 7), 0);
        due.is("seen twice", x.seen(2), 2);
        due.is("seen by another", x.seen(1), 0);
        due.is("see 601", x.see(2, 0, 601), Due.BAD);
        due.is("see -601", x.see(2, 0, -601), Due.BAD);
        due.is("see NONE", x.see(2, 0, Due.NONE), Due.BAD);
        due.is("see at 32", x.see(2, 32, 601), Due.UNKNOWN);
        due.is("see at -1", x.see(2, -1, 0), Due.UNKNOWN);
        due.is("see by 3", x.see(3, 0, 601), Due.UNKNOWN);
        due.is("see by -1", x.see(-1, 0, 0), Due.UNKNOWN);
        due.is("seen after bad ones", x.seen(2), 2);
        due.is("filled after bad ones", x.filled(2, 0), 7);
        due.is("forget", x.forget(2, 31), 1);
        due.is("seen then", x.seen(2), 1);
        due.is("forget again", x.forget(2, 31), Due.STATE);
        due.is("forget what another saw", x.forget(1, 0), Due.STATE);
        due.is("forget at 32", x.forget(2, 32), Due.UNKNOWN);
        due.is("forget at -1", x.forget(2, -1), Due.UNKNOWN);
        due.is("forget by 3", x.forget(3, 0), Due.UNKNOWN);
        due.is("seen by 3", x.seen(3), Due.UNKNOWN);
        due.is("seen by -1", x.seen(-1), Due.UNKNOWN);
        due.is("see what was forgotten", x.see(2, 31, 1), Due.NONE);
    }

    private static void filled() {
        FooledNeedle x = new FooledNeedle();
        due.is("filled from nothing", x.filled(0, 0), Due.STATE);
        due.is("filled at 32, of nothing", x.filled(0, 32), Due.UNKNOWN);
        x.see(0, 10, -77);
        for (int heading = 0; heading < 32; heading++) {
            due.is("filled from one", x.filled(0, heading), -77);
        }
        x.see(0, 13, 25);
        // From -77 at 10 to 25 at 13: thirds of 102; the other way round 29 steps.
        due.is("filled at 11", x.filled(0, 11), -43);
        due.is("filled at 12", x.filled(0, 12), -9);
        due.is("filled at 14: (28 * 25 - 77) by 29", x.filled(0, 14), 21);
        due.is("filled at 9: (25 - 77 * 28) by 29", x.filled(0, 9), -73);
        due.is("filled at 0: (10 * 25 - 77 * 19) by 29", x.filled(0, 0), -42);
        due.is("filled at 31: (11 * 25 - 77 * 18) by 29", x.filled(0, 31), -38);
        FooledNeedle y = new FooledNeedle();
        y.see(0, 31, 0);
        y.see(0, 1, -1);
        due.is("half of -1 goes up", y.filled(0, 0), 0);
        y.see(0, 1, 1);
        due.is("half of 1 goes up", y.filled(0, 0), 1);
        due.is("filled by 3", x.filled(3, 0), Due.UNKNOWN);
        due.is("filled by -1", x.filled(-1, 0), Due.UNKNOWN);
        due.is("filled at 32", x.filled(0, 32), Due.UNKNOWN);
        due.is("filled at -1", x.filled(0, -1), Due.UNKNOWN);
    }

    private static void gap() {
        FooledNeedle x = new FooledNeedle();
        due.is("gap of nothing", x.gap(1), 32);
        x.see(1, 5, 0);
        due.is("gap of one", x.gap(1), 31);
        x.see(1, 7, 0);
        due.is("gap over north", x.gap(1), 29);
        x.see(1, 30, 0);
        due.is("gap inside", x.gap(1), 22);
        for (int heading = 0; heading < 32; heading++) {
            x.see(1, heading, 3);
        }
        due.is("gap of none", x.gap(1), 0);
        x.forget(1, 0);
        x.forget(1, 31);
        x.forget(1, 30);
        x.forget(1, 8);
        x.forget(1, 9);
        due.is("gap of three over north", x.gap(1), 3);
        due.is("gap by 3", x.gap(3), Due.UNKNOWN);
        due.is("gap by -1", x.gap(-1), Due.UNKNOWN);
    }

    private static void apart() {
        FooledNeedle x = new FooledNeedle();
        x.part(0, 0, 11);
        x.part(0, 5, 77);
        for (int heading = 0; heading < 3; heading++) {
            x.see(0, 10 * heading, 50);
            due.is("apart with few", x.apart(0), Due.STATE);
        }
        due.is("A after what was refused", x.told(0, 0), 11);
        x.see(0, 31, 50);
        due.is("apart with four", x.apart(0), 0);
        due.is("A", x.told(0, 0), 50);
        due.is("J stays", x.told(0, 5), 77);
        due.is("other compass stays", x.told(1, 0), 0);
        // A card laid down by its own errors comes back: the tables of the sines are near enough to it.
        int[] parts = {-12, 150, -220, 60, -35};
        for (int part = 0; part < 5; part++) {
            x.part(2, part, parts[part]);
        }
        for (int heading = 0; heading < 32; heading++) {
            x.see(2, heading, x.error(2, heading, 0));
        }
        for (int part = 0; part < 5; part++) {
            x.part(2, part, 999);
        }
        due.holds("apart of a whole swing", x.apart(2) <= 1);
        for (int part = 0; part < 5; part++) {
            due.holds("part " + part + " comes back", Math.abs(x.told(2, part) - parts[part]) <= 1);
        }
        greatestIsOfWhatWasSeen();
        greatestAtNorth();
        for (int part = 1; part < 5; part++) {
            squareWave(part);
        }
        due.is("apart of 3", x.apart(3), Due.UNKNOWN);
        due.is("apart of -1", x.apart(-1), Due.UNKNOWN);
    }

    private static void greatestIsOfWhatWasSeen() {
        FooledNeedle x = new FooledNeedle();
        int[] headings = {0, 3, 4, 20};
        int[] errors = {600, -600, 600, -600};
        for (int i = 0; i < 4; i++) {
            x.see(1, headings[i], errors[i]);
        }
        long[] sums = new long[5];
        for (int heading = 0; heading < 32; heading++) {
            int error = x.filled(1, heading);
            sums[0] += error;
            sums[1] += (long) error * x.sine(100 * heading, false);
            sums[2] += (long) error * x.sine(100 * heading, true);
            sums[3] += (long) error * x.sine(200 * heading % 3200, false);
            sums[4] += (long) error * x.sine(200 * heading % 3200, true);
        }
        int greatest = x.apart(1);
        int most = 0;
        for (int i = 0; i < 4; i++) {
            int size = Math.abs(errors[i] - x.error(1, headings[i], 0));
            due.is("residue", x.residue(1, headings[i]), errors[i] - x.error(1, headings[i], 0));
            most = Math.max(most, size);
        }
        due.is("apart", greatest, most);
        for (int part = 0; part < 5; part++) {
            long by = part == 0 ? 32 : 16000;
            due.is("taken apart " + part, x.told(1, part), Math.floorDiv(2 * sums[part] + by, 2 * by));
        }
    }

    private static void greatestAtNorth() {
        FooledNeedle x = new FooledNeedle();
        for (int heading = 0; heading < 32; heading++) {
            x.see(0, heading, heading == 0 ? 320 : 0);
        }
        // A is 10, B and D are 0, C and E 20: 50 of 320 at north.
        due.is("apart, greatest at north", x.apart(0), 270);
        int[] parts = {10, 0, 20, 0, 20};
        for (int part = 0; part < 5; part++) {
            due.is("taken apart " + part, x.told(0, part), parts[part]);
        }
    }

    /** Errors as great everywhere, with the sign of one wave: just above a half, so that it goes up. */
    private static void squareWave(int part) {
        FooledNeedle x = new FooledNeedle();
        int great = part < 3 ? 585 : 574;
        for (int heading = 0; heading < 32; heading++) {
            int r = (part < 3 ? 100 : 200) * heading % 3200;
            x.see(1, heading, great * Integer.signum(x.sine(r, part % 2 == 0)));
        }
        x.apart(1);
        for (int other = 0; other < 5; other++) {
            // 585 * 20308 by 16000 is 742.51; 574 * 20112 by 16000 is 721.52.
            due.is("square wave " + part + ", part " + other, x.told(1, other), other != part ? 0 : part < 3 ? 743 : 722);
        }
    }

    private static void residue() {
        FooledNeedle x = new FooledNeedle();
        x.see(0, 8, -30);
        x.part(0, 1, 100);
        x.part(0, 5, 999);
        due.is("residue", x.residue(0, 8), -130);
        due.is("residue where nothing was", x.residue(0, 9), Due.NONE);
        due.is("residue of another", x.residue(1, 8), Due.NONE);
        x.see(0, 0, 5);
        due.is("residue is upright", x.residue(0, 0), 5);
        due.is("residue of 3", x.residue(3, 8), Due.UNKNOWN);
        due.is("residue of -1", x.residue(-1, 8), Due.UNKNOWN);
        due.is("residue at 32", x.residue(0, 32), Due.UNKNOWN);
        due.is("residue at -1", x.residue(0, -1), Due.UNKNOWN);
    }
}
