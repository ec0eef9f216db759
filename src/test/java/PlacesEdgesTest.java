/** The boundary cases of part 4 and of promises 30 to 33, sentence by sentence; RefusalsTest has what is refused. */
public final class PlacesEdgesTest {
    private static final Due due = new Due();

    public static void main(String[] args) {
        placeEnds();
        placeLeavesNotes();
        noteAsThen();
        noteInsteadOfTheOneBefore();
        allNotes();
        foretoldByNotesOfItsOwn();
        foretoldJustAsNoted();
        foretoldRounded();
        foretoldAtMost();
        foretoldOfTheGreatest();
        foretoldWithoutTwo();
        foretoldErrorOfItsCard();
        foretoldErrorAtMost();
        due.end();
    }

    /** A place gets H and Z, and a note of what is told for B there; C is noted as its opposite. */
    private static void noted(FooledNeedle x, int compass, int place, int h, int z, int b) {
        x.place(place, h, z);
        x.part(compass, 1, b);
        x.part(compass, 2, -b);
        x.note(compass, place);
    }

    private static void placeEnds() {
        due.about("30, H (1 .. 999) and Z (-999 .. 999)");
        for (int place = 0; place < 8; place++) {
            // B H is 1000 and 5 Z.
            FooledNeedle x = new FooledNeedle();
            noted(x, 0, (place + 1) % 8, 100, 0, 10);
            noted(x, 0, (place + 2) % 8, 100, 100, 15);
            int one = (place + 1) % 8;
            int two = (place + 2) % 8;
            due.is("H 1, Z 999", x.place(place, 1, 999), 1);
            due.is("foretold", x.foretold(0, place, one, two, false), 5995);
            due.is("Z 1000", x.place(place, 5, 1000), Due.BAD);
            due.is("H 0", x.place(place, 0, 5), Due.BAD);
            due.is("foretold as before", x.foretold(0, place, one, two, false), 5995);
            due.is("H 1, Z -999", x.place(place, 1, -999), 1);
            due.is("foretold", x.foretold(0, place, one, two, false), -3995);
            due.is("Z -1000", x.place(place, 5, -1000), Due.BAD);
            due.is("H 1000", x.place(place, 1000, 5), Due.BAD);
            due.is("foretold as before", x.foretold(0, place, one, two, false), -3995);
            // B H is 998001 at all places: 999 at H 999, 1000 at H 998.
            FooledNeedle y = new FooledNeedle();
            noted(y, 0, one, 999, 0, 999);
            noted(y, 0, two, 999, 1, 999);
            due.is("H 999", y.place(place, 999, -5), 1);
            due.is("foretold", y.foretold(0, place, one, two, false), 999);
        }
    }

    private static void placeLeavesNotes() {
        due.about("30, (NOTES stay.)");
        FooledNeedle x = new FooledNeedle();
        noted(x, 0, 0, 100, 0, 10);
        noted(x, 0, 1, 100, 100, 15);
        x.place(0, 200, 50);
        due.is("two notes", x.count(4), 2);
        due.is("B as noted", x.foretold(0, 0, 0, 1, false), 10);
        // B H is 2000 at Z 50 and 1500 at Z 100 now.
        due.is("by H and Z as they are", x.foretold(0, 2, 0, 1, false), 25);
        x.place(1, 100, 50);
        due.is("Z alike now", x.foretold(0, 2, 0, 1, false), Due.STATE);
        x.place(1, 100, 49);
        due.is("Z unlike by one", x.foretold(0, 1, 0, 1, false), 15);
    }

    private static void noteAsThen() {
        due.about("31, its B and C as they are then");
        FooledNeedle x = new FooledNeedle();
        noted(x, 2, 0, 100, 0, 999);
        noted(x, 2, 7, 100, 1, -999);
        x.part(2, 1, 5);
        x.part(2, 2, 5);
        due.is("B at 0", x.foretold(2, 0, 0, 7, false), 999);
        due.is("C at 0", x.foretold(2, 0, 0, 7, true), -999);
        due.is("B at 7", x.foretold(2, 7, 0, 7, false), -999);
        due.is("C at 7", x.foretold(2, 7, 0, 7, true), 999);
        FooledNeedle y = new FooledNeedle();
        y.place(1, 100, 1);
        y.event(0, 0, 1, 300);
        y.bar(0, 800);
        y.layBar(0, 0, 2, false);
        y.note(0, 0);
        y.note(0, 1);
        due.is("as told, without events and magnets", y.foretold(0, 0, 0, 1, false), 0);
    }

    private static void noteInsteadOfTheOneBefore() {
        due.about("31, (instead of the one before there)");
        FooledNeedle x = new FooledNeedle();
        noted(x, 1, 3, 100, 5, 40);
        noted(x, 1, 4, 100, 6, 50);
        due.is("two", x.count(4), 2);
        noted(x, 1, 3, 100, 5, 70);
        due.is("still two", x.count(4), 2);
        due.is("the new one", x.foretold(1, 3, 3, 4, false), 70);
        due.is("C of it", x.foretold(1, 3, 3, 4, true), -70);
        due.is("the other stays", x.foretold(1, 4, 3, 4, false), 50);
    }

    private static void allNotes() {
        due.about("31, each COMPASS at each PLACE: 1");
        FooledNeedle x = new FooledNeedle();
        for (int compass = 0; compass < 3; compass++) {
            for (int place = 0; place < 8; place++) {
                noted(x, compass, place, 100, place, 100 * compass + 7 * place);
                due.is("again", x.note(compass, place), 1);
                due.is("notes", x.count(4), 8 * compass + place + 1);
            }
        }
        for (int compass = 0; compass < 3; compass++) {
            for (int place = 0; place < 8; place++) {
                int other = 7 - place;
                due.is("B", x.foretold(compass, place, place, other, false), 100 * compass + 7 * place);
                due.is("C", x.foretold(compass, place, other, place, true), -100 * compass - 7 * place);
            }
        }
    }

    private static void foretoldByNotesOfItsOwn() {
        due.about("32, no NOTE of it");
        FooledNeedle x = new FooledNeedle();
        noted(x, 1, 0, 100, 0, 10);
        noted(x, 1, 7, 100, 9, 10);
        due.is("compass 0", x.foretold(0, 3, 0, 7, false), Due.STATE);
        due.is("compass 1", x.foretold(1, 3, 0, 7, false), 10);
        due.is("compass 2", x.foretold(2, 3, 0, 7, false), Due.STATE);
        noted(x, 2, 0, 100, 0, 20);
        due.is("compass 2, one of both", x.foretold(2, 3, 0, 7, false), Due.STATE);
        due.is("compass 2, the other of both", x.foretold(2, 3, 7, 0, false), Due.STATE);
        noted(x, 2, 7, 100, 9, 20);
        due.is("compass 2, both", x.foretold(2, 3, 7, 0, false), 20);
    }

    private static void foretoldJustAsNoted() {
        due.about("32, those two just as noted");
        int[][] rows = {{1, -999, 999}, {999, 999, -999}, {7, 0, 13}, {313, -1, 0}};
        for (int[] row : rows) {
            FooledNeedle x = new FooledNeedle();
            noted(x, 0, 0, row[0], row[1], row[2]);
            noted(x, 0, 7, 1000 - row[0], -998, -row[2]);
            due.is("at one", x.foretold(0, 0, 0, 7, false), row[2]);
            due.is("at two", x.foretold(0, 7, 0, 7, false), -row[2]);
            due.is("at one, the other way about", x.foretold(0, 0, 7, 0, true), -row[2]);
            due.is("at two, the other way about", x.foretold(0, 7, 7, 0, true), row[2]);
        }
    }

    private static void foretoldRounded() {
        due.about("32, ROUNDED, a half goes up, whichever of both has the greater Z");
        int[][] rows = {{7, 4}, {-7, -3}, {1, 1}, {-1, 0}, {8, 4}, {-8, -4}};
        for (int[] row : rows) {
            // B H is row[0] at all places, and H is 2: halves.
            FooledNeedle x = new FooledNeedle();
            noted(x, 0, 0, 1, 0, row[0]);
            noted(x, 0, 1, 1, 1, row[0]);
            x.place(2, 2, 40);
            due.is(row[0] + " by 2", x.foretold(0, 2, 0, 1, false), row[1]);
            due.is(row[0] + " by 2, the other way about", x.foretold(0, 2, 1, 0, false), row[1]);
        }
        // B H is 3 Z by 2: 1.5 at Z 1 with H 1, -1.5 at Z -1.
        FooledNeedle y = new FooledNeedle();
        noted(y, 0, 0, 1, 0, 0);
        noted(y, 0, 1, 1, 2, 3);
        y.place(2, 1, 1);
        due.is("1.5", y.foretold(0, 2, 0, 1, false), 2);
        due.is("C -1.5", y.foretold(0, 2, 0, 1, true), -1);
        y.place(2, 1, -1);
        due.is("-1.5, the other way about", y.foretold(0, 2, 1, 0, false), -1);
        due.is("C 1.5, the other way about", y.foretold(0, 2, 1, 0, true), 2);
    }

    private static void foretoldAtMost() {
        due.about("32, ROUNDED, -9999 and 9999 at most");
        int[][] rows = {
            // B at H 1, Z 0; H and B at Z 1; so B H at Z 2, where H is 2; what is due of it, and of its opposite
            {2, 11, 909, 9998, -9998}, {1, 11, 909, 9999, -9998}, {0, 11, 909, 9999, -9999}, {1, 20, 500, 9999, -9999},
            {0, 20, 500, 9999, -9999}, {1, 73, 137, 9999, -9999}, {0, 999, 999, 9999, -9999},
        };
        for (int[] row : rows) {
            FooledNeedle x = new FooledNeedle();
            noted(x, 0, 0, 1, 0, row[0]);
            noted(x, 0, 1, row[1], 1, row[2]);
            x.place(2, 2, 2);
            String of = (2 * row[1] * row[2] - row[0]) + " by 2";
            due.is(of, x.foretold(0, 2, 0, 1, false), row[3]);
            due.is(of + ", the other way about", x.foretold(0, 2, 1, 0, false), row[3]);
            due.is("C, less " + of, x.foretold(0, 2, 0, 1, true), row[4]);
            due.is("C, less " + of + ", the other way about", x.foretold(0, 2, 1, 0, true), row[4]);
        }
    }

    /** From -998001 at Z 0 to 998001 at Z 1, on to Z 999: more than an int holds on the way. */
    private static void foretoldOfTheGreatest() {
        due.about("32, the greatest that there is");
        FooledNeedle x = new FooledNeedle();
        noted(x, 0, 0, 999, 998, -999);
        noted(x, 0, 1, 999, 999, 999);
        x.place(2, 1, -999);
        due.is("far below", x.foretold(0, 2, 0, 1, false), -9999);
        due.is("far below, the other way about", x.foretold(0, 2, 1, 0, false), -9999);
        due.is("C far above", x.foretold(0, 2, 0, 1, true), 9999);
        noted(x, 0, 0, 999, -999, -999);
        noted(x, 0, 1, 999, 999, 999);
        x.place(2, 999, 500);
        // 998001 times 500 by 999, by 999.
        due.is("half way up", x.foretold(0, 2, 0, 1, false), 500);
        x.place(2, 999, -500);
        due.is("half way down", x.foretold(0, 2, 1, 0, false), -500);
    }

    private static void foretoldWithoutTwo() {
        due.about("32 and 33, STATE: one of both has no NOTE, or their Z are alike");
        FooledNeedle x = new FooledNeedle();
        due.is("no note at all", x.foretold(0, 0, 1, 2, false), Due.STATE);
        noted(x, 0, 1, 100, 10, 5);
        due.is("one alone", x.foretold(0, 0, 1, 2, false), Due.STATE);
        due.is("two alone", x.foretold(0, 0, 2, 1, false), Due.STATE);
        due.is("one twice", x.foretold(0, 1, 1, 1, false), Due.STATE);
        noted(x, 0, 2, 200, 10, 6);
        due.is("Z alike", x.foretold(0, 0, 1, 2, false), Due.STATE);
        due.is("card, Z alike", x.foretoldError(0, 0, 0, 1, 2), Due.STATE);
        x.place(2, 200, 11);
        // B H is 500 at Z 10, 1200 at Z 11, so -6500 at Z 0.
        due.is("Z unlike", x.foretold(0, 0, 1, 2, false), -65);
        due.is("card, Z unlike", x.foretoldError(0, 8, 0, 1, 2), -65);
        due.is("the place itself needs no note", x.foretold(0, 7, 1, 2, false), -65);
        due.is("UNKNOWN ahead of STATE", x.foretold(0, 8, 1, 1, false), Due.UNKNOWN);
        due.is("card, UNKNOWN ahead of STATE", x.foretoldError(0, 32, 0, 1, 1), Due.UNKNOWN);
    }

    private static void foretoldErrorOfItsCard() {
        due.about("33, THE ERROR with these two, upright");
        FooledNeedle x = new FooledNeedle();
        noted(x, 1, 0, 100, 0, 30);
        noted(x, 1, 1, 100, 1, 40);
        int[] now = {3, 500, 600, 20, -10, 999};
        for (int part = 0; part < 6; part++) {
            x.part(1, part, now[part]);
        }
        x.place(2, 100, 2);
        // B 50 and C -50 there; A 3, D 20, E -10 as they are; J does not count.
        FooledNeedle like = new FooledNeedle();
        int[] there = {3, 50, -50, 20, -10, 0};
        for (int part = 0; part < 6; part++) {
            like.part(0, part, there[part]);
        }
        for (int heading = 0; heading < 32; heading++) {
            due.is("at " + heading, x.foretoldError(1, heading, 2, 0, 1), like.error(0, heading, 0));
        }
        due.is("north", x.foretoldError(1, 0, 2, 0, 1), 3 - 50 - 10);
        due.is("B stays", x.told(1, 1), 500);
        due.is("C stays", x.told(1, 2), 600);
    }

    private static void foretoldErrorAtMost() {
        due.about("33, with B and C of 9999 at most");
        FooledNeedle x = new FooledNeedle();
        noted(x, 0, 0, 999, 0, -999);
        noted(x, 0, 1, 999, 1, 999);
        x.place(2, 1, 999);
        due.is("east", x.foretoldError(0, 8, 2, 0, 1), 9999);
        due.is("north", x.foretoldError(0, 0, 2, 0, 1), -9999);
        due.is("north-west", x.foretoldError(0, 28, 2, 0, 1), -14139);
    }
}
