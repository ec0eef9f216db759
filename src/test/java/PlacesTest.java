/** Promises 30 to 33. */
public final class PlacesTest {
    private static final Due due = new Due();

    public static void main(String[] args) {
        place();
        note();
        foretold();
        foretoldAtMost();
        foretoldError();
        due.end();
    }

    private static void place() {
        FooledNeedle x = new FooledNeedle();
        due.is("place", x.place(7, 999, -999), 1);
        due.is("place again", x.place(7, 1, 999), 1);
        int[][] bad = {{0, 0}, {1000, 0}, {-5, 0}, {1, 1000}, {1, -1000}, {Integer.MAX_VALUE, Integer.MIN_VALUE}};
        for (int[] row : bad) {
            due.is("H, Z bad", x.place(7, row[0], row[1]), Due.BAD);
            due.is("place 8", x.place(8, row[0], row[1]), Due.UNKNOWN);
            due.is("place -1", x.place(-1, row[0], row[1]), Due.UNKNOWN);
        }
        // What was refused left H 1, Z 999: B is 100 H0 by 1 there, if B H is alike at all Z.
        x.part(0, 1, 3);
        x.note(0, 0);
        x.place(1, 100, 50);
        x.note(0, 1);
        due.is("after bad ones", x.foretold(0, 7, 0, 1, false), 300);
    }

    private static void note() {
        FooledNeedle x = new FooledNeedle();
        x.part(1, 1, 40);
        x.part(1, 2, -70);
        due.is("note", x.note(1, 0), 1);
        due.is("notes", x.count(4), 1);
        due.is("note again", x.note(1, 0), 1);
        due.is("notes still", x.count(4), 1);
        due.is("note of another", x.note(2, 0), 1);
        due.is("notes then", x.count(4), 2);
        due.is("note of 3", x.note(3, 0), Due.UNKNOWN);
        due.is("note of -1", x.note(-1, 0), Due.UNKNOWN);
        due.is("note at 8", x.note(0, 8), Due.UNKNOWN);
        due.is("note at -1", x.note(0, -1), Due.UNKNOWN);
        due.is("notes after what was refused", x.count(4), 2);
        x.place(1, 100, 10);
        x.note(1, 1);
        x.part(1, 1, 999);
        x.part(1, 2, 999);
        due.is("B as it was then", x.foretold(1, 0, 0, 1, false), 40);
        due.is("C as it was then", x.foretold(1, 0, 0, 1, true), -70);
        x.note(1, 1);
        due.is("B noted anew", x.foretold(1, 1, 0, 1, false), 999);
        due.is("B at the other", x.foretold(1, 0, 0, 1, false), 40);
        x.place(1, 200, 20);
        due.is("notes stay", x.foretold(1, 1, 0, 1, false), 999);
        x.event(0, 0, 1, 100);
        x.bar(0, 800);
        x.layBar(0, 0, 2, false);
        x.note(0, 0);
        x.note(0, 1);
        due.is("no event and no magnet in it", x.foretold(0, 0, 0, 1, false), 0);
    }

    private static FooledNeedle twoNotes() {
        FooledNeedle x = new FooledNeedle();
        x.place(0, 200, 300);
        x.place(1, 400, -100);
        x.part(0, 1, 50);
        x.part(0, 2, 20);
        x.note(0, 0);
        x.part(0, 1, 80);
        x.part(0, 2, -10);
        x.note(0, 1);
        return x;
    }

    private static void foretold() {
        FooledNeedle x = twoNotes();
        // B H is 10000 at Z 300, 32000 at Z -100: 26500 less 55 Z. C H is 4000, -4000: 20 Z less 2000.
        x.place(2, 300, 0);
        due.is("B", x.foretold(0, 2, 0, 1, false), 88);
        due.is("B, the other way about", x.foretold(0, 2, 1, 0, false), 88);
        due.is("C", x.foretold(0, 2, 0, 1, true), -7);
        due.is("C, the other way about", x.foretold(0, 2, 1, 0, true), -7);
        x.place(2, 1000 - 1, 500);
        due.is("B far off", x.foretold(0, 2, 0, 1, false), -1);
        x.place(2, 1, 481);
        due.is("B below 0", x.foretold(0, 2, 0, 1, false), 45);
        x.place(2, 2, 483);
        due.is("less a half goes up", x.foretold(0, 2, 0, 1, false), -32);
        due.is("less a half goes up, the other way about", x.foretold(0, 2, 1, 0, false), -32);
        due.is("just as noted", x.foretold(0, 0, 0, 1, false), 50);
        due.is("just as noted at the other", x.foretold(0, 1, 0, 1, true), -10);
        due.is("one alone", x.foretold(0, 2, 1, 1, false), Due.STATE);
        due.is("no note at two", x.foretold(0, 0, 1, 2, false), Due.STATE);
        due.is("no note at one", x.foretold(0, 0, 2, 1, false), Due.STATE);
        due.is("no note of another", x.foretold(1, 0, 0, 1, false), Due.STATE);
        x.place(1, 400, 300);
        due.is("Z alike", x.foretold(0, 2, 0, 1, false), Due.STATE);
        due.is("compass 3", x.foretold(3, 2, 0, 1, false), Due.UNKNOWN);
        due.is("compass -1", x.foretold(-1, 2, 0, 1, false), Due.UNKNOWN);
        for (int place : new int[] {-1, 8}) {
            due.is("place unknown", x.foretold(1, place, 0, 1, false), Due.UNKNOWN);
            due.is("one unknown", x.foretold(1, 2, place, 1, false), Due.UNKNOWN);
            due.is("two unknown", x.foretold(1, 2, 0, place, false), Due.UNKNOWN);
        }
    }

    private static void foretoldAtMost() {
        FooledNeedle x = new FooledNeedle();
        x.place(0, 999, 0);
        x.place(1, 999, 1);
        x.place(2, 1, 999);
        x.place(3, 1, -999);
        x.part(0, 1, -999);
        x.part(0, 2, 999);
        x.note(0, 0);
        x.part(0, 1, 999);
        x.part(0, 2, -999);
        x.note(0, 1);
        due.is("9999 at most", x.foretold(0, 2, 0, 1, false), 9999);
        due.is("9999 at most, the other way about", x.foretold(0, 2, 1, 0, false), 9999);
        due.is("-9999 at least", x.foretold(0, 3, 0, 1, false), -9999);
        due.is("C, -9999 at least", x.foretold(0, 2, 0, 1, true), -9999);
        due.is("C, 9999 at most", x.foretold(0, 3, 0, 1, true), 9999);
        x.part(0, 0, 1);
        x.part(0, 4, 2);
        due.is("error with these", x.foretoldError(0, 0, 2, 0, 1), -9999 + 3);
        due.is("error with these, east", x.foretoldError(0, 8, 2, 0, 1), 9999 - 1);
    }

    private static void foretoldError() {
        FooledNeedle x = twoNotes();
        x.place(2, 300, 0);
        x.part(0, 0, 4);
        x.part(0, 3, 33);
        x.part(0, 4, -21);
        x.part(0, 5, 999);
        int[] parts = {4, 88, -7, 33, -21, 999};
        for (int part = 0; part < 6; part++) {
            x.part(2, part, parts[part]);
        }
        for (int heading = 0; heading < 32; heading++) {
            due.is("card foretold", x.foretoldError(0, heading, 2, 0, 1), x.error(2, heading, 0));
        }
        due.is("B stays as told", x.told(0, 1), 80);
        due.is("no note", x.foretoldError(0, 0, 2, 0, 3), Due.STATE);
        due.is("one alone", x.foretoldError(0, 0, 2, 0, 0), Due.STATE);
        due.is("compass 3", x.foretoldError(3, 0, 2, 0, 3), Due.UNKNOWN);
        due.is("compass -1", x.foretoldError(-1, 0, 2, 0, 3), Due.UNKNOWN);
        due.is("heading 32", x.foretoldError(0, 32, 2, 0, 3), Due.UNKNOWN);
        due.is("heading -1", x.foretoldError(0, -1, 2, 0, 3), Due.UNKNOWN);
        for (int place : new int[] {-1, 8}) {
            due.is("place unknown", x.foretoldError(1, 0, place, 0, 1), Due.UNKNOWN);
            due.is("one unknown", x.foretoldError(1, 0, 2, place, 1), Due.UNKNOWN);
            due.is("two unknown", x.foretoldError(1, 0, 2, 0, place), Due.UNKNOWN);
        }
    }
}
