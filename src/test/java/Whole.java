import java.util.ArrayList;
import java.util.List;

/**
 * All that an object holds, as far as calls can tell it. Reading uses the object up: made alike and
 * called alike, two objects must read alike.
 */
final class Whole {
    private static final int[] DAYS = {0, 9, 10, 499, 500, 998, 999};

    private final FooledNeedle x;
    private final List<Integer> told = new ArrayList<>();

    private Whole(FooledNeedle x) {
        this.x = x;
    }

    static List<Integer> of(FooledNeedle x) {
        Whole whole = new Whole(x);
        whole.counts();
        whole.compasses();
        whole.legs();
        whole.daysOfEvents();
        whole.placesAndNotes();
        whole.magnets();
        whole.events();
        return whole.told;
    }

    private void counts() {
        for (int what = 0; what <= 5; what++) {
            told.add(x.count(what));
        }
    }

    private void compasses() {
        for (int compass = 0; compass < 3; compass++) {
            for (int part = 0; part < 6; part++) {
                told.add(x.told(compass, part));
            }
            for (int heading = 0; heading < 32; heading++) {
                told.add(x.residue(compass, heading));
            }
        }
    }

    /** The first three and the last three: a voyage may have too many for one object's calls. */
    private void legs() {
        int many = x.count(0);
        for (int leg = 0; leg < many; leg++) {
            if (leg < 3 || leg >= many - 3) {
                for (int what = 0; what <= 5; what++) {
                    told.add(x.about(leg, what));
                }
            }
        }
    }

    private void daysOfEvents() {
        for (int part = 0; part < 6; part++) {
            for (int day : DAYS) {
                told.add(x.asOf(part, day));
            }
        }
    }

    /** Notes at a place are foretold for itself; H and Z are in what is foretold by two others. */
    private void placesAndNotes() {
        for (int place = 0; place < 8; place++) {
            int other = place == 0 ? 7 : 0;
            for (int compass = 0; compass < 3; compass++) {
                told.add(x.foretold(compass, place, place, other, false));
                told.add(x.foretold(compass, place, place, other, true));
            }
            told.add(x.foretold(0, place, 0, 7, false));
            told.add(x.foretold(0, place, 0, 7, true));
        }
    }

    private void magnets() {
        for (int part = 1; part <= 3; part++) {
            told.add(x.leftOf(part));
        }
        for (int bar = 0; bar < 6; bar++) {
            told.add(x.bar(bar, 1));
        }
        for (int ball = 0; ball < 4; ball++) {
            told.add(x.ball(ball, 1));
        }
        told.add(x.takeUp());
        for (int bar = 0; bar < 6; bar++) {
            told.add(x.bar(bar, 0));
        }
        for (int ball = 0; ball < 4; ball++) {
            told.add(x.ball(ball, 0));
        }
    }

    private void events() {
        for (int event = 0; event < 20; event++) {
            told.add(x.event(event, 0, 0, 0));
        }
    }
}
