/** Objects with something of all there is: compass 0 swung at five headings, 1 at three, 2 at none; four legs. */
final class Ship {
    private Ship() {}

    static FooledNeedle made() {
        FooledNeedle x = new FooledNeedle();
        for (int compass = 0; compass < 3; compass++) {
            for (int part = 0; part < 6; part++) {
                x.part(compass, part, 70 * compass + 17 * part - 40);
            }
        }
        for (int heading : new int[] {0, 5, 12, 20, 31}) {
            x.see(0, heading, 10 * heading - 90);
        }
        for (int heading : new int[] {0, 10, 31}) {
            x.see(1, heading, 3 * heading);
        }
        x.bar(0, 8000);
        x.bar(1, 3000);
        x.bar(2, 5000);
        x.bar(5, 777);
        x.layBar(0, 0, 3, false);
        x.layBar(1, 1, 4, true);
        x.ball(0, 6);
        x.ball(1, 20);
        x.ball(3, 2);
        x.layBall(0, 7);
        for (int place = 0; place < 8; place++) {
            x.place(place, 100 + 30 * place, place == 3 ? 0 : 100 * place - 200);
        }
        for (int place : new int[] {0, 2, 3, 7}) {
            x.note(0, place);
        }
        for (int place : new int[] {0, 5, 7}) {
            x.note(1, place);
        }
        x.note(2, 0);
        x.note(2, 7);
        x.event(0, 10, 1, 30);
        x.event(7, 500, 0, -45);
        x.event(19, 999, 5, 300);
        x.leg(10, 800, 5, 100, 820, 75);
        x.leg(10, 3150, -30, 0, Due.NONE, -600);
        x.leg(500, 1600, 0, 17, 3199, Due.NONE);
        x.leg(998, 0, 30, 300, 0, 600);
        return x;
    }

    static FooledNeedle atHome() {
        FooledNeedle x = made();
        x.home();
        return x;
    }

    static FooledNeedle withAllLegs() {
        FooledNeedle x = atHome();
        for (int leg = 0; leg < 40; leg++) {
            x.leg(500, 80 * leg, 0, leg, Due.NONE, Due.NONE);
        }
        return x;
    }
}
