import java.util.List;
import java.util.function.Consumer;

/** What only asks changes nothing; what changes one thing leaves all others as they are. */
public final class AsksTest {
    private static final Due due = new Due();

    public static void main(String[] args) {
        asks();
        changesOneThing();
        sameAgain();
        due.end();
    }

    private static void unchanged(String what, Consumer<FooledNeedle> calls) {
        FooledNeedle x = Ship.made();
        calls.accept(x);
        due.holds(what, Whole.of(Ship.made()).equals(Whole.of(x)));
    }

    private static void asks() {
        due.about("what only asks changes nothing");
        unchanged("2 and 3", x -> x.sine(x.way(0, 7), true));
        unchanged("5 to 8", x -> x.trueOf(0, x.errorAt(0, 5, 6), x.error(0, 7, 8) + x.told(0, 1)));
        unchanged("9", x -> x.steer(0, 1234, -30));
        unchanged("10 to 12", x -> x.worst(x.worstAt(0) + x.twofold(0)));
        unchanged("15 to 17", x -> x.filled(0, x.seen(0) + x.gap(1)));
        unchanged("19", x -> x.residue(0, 5));
        unchanged("25 and 26", x -> x.left(x.leftOf(1)));
        unchanged("27 and 28", x -> x.bestCode(x.best()));
        unchanged("28", x -> x.bestCode(2));
        unchanged("32", x -> x.foretold(0, 1, 0, 7, true));
        unchanged("33", x -> x.foretoldError(0, 9, 1, 0, 7));
        unchanged("35", x -> x.asOf(1, 999));
        for (int what = 0; what <= 8; what++) {
            int of = what;
            unchanged("37, what " + what, x -> x.about(0, of));
        }
        unchanged("39", x -> x.worked(4, 10, -300, true));
        unchanged("40 to 42", x -> x.jump(x.split() + x.splitCost()));
        unchanged("42", x -> x.jump(0));
        unchanged("43 and 44", x -> x.nearer(x.firstApart(0)));
        unchanged("45", x -> x.wreck(9999, -9999, 2));
        unchanged("46", x -> x.count(5));
    }

    /** What is changed and put back again leaves all as it was, if nothing else was touched. */
    private static void changesOneThing() {
        due.about("what changes one thing leaves all others");
        unchanged("4 part", x -> x.part(2, 3, x.part(2, 3, 999)));
        unchanged("13 see", x -> x.see(0, 31, x.see(0, 31, 600)));
        unchanged("14 forget", x -> {
            x.see(2, 9, 600);
            x.forget(2, 9);
        });
        unchanged("20 bar", x -> x.bar(5, x.bar(5, 30000)));
        unchanged("21 ball", x -> x.ball(3, x.ball(3, 20)));
        unchanged("22 layBar", x -> {
            x.layBar(1, 0, 9, false);
            x.layBar(1, 1, 4, true);
        });
        unchanged("23 layBall", x -> {
            x.layBall(1, 20);
            x.layBall(0, 7);
        });
        unchanged("24 and 29, takeUp and layBest", x -> {
            x.layBest();
            x.takeUp();
            x.layBar(0, 0, 3, false);
            x.layBar(1, 1, 4, true);
            x.layBall(0, 7);
        });
        unchanged("30 place", x -> {
            x.place(1, 999, -999);
            x.place(1, 130, -100);
        });
        unchanged("31 note", x -> x.note(0, 7));
        unchanged("34 event", x -> {
            x.event(8, 0, 2, 300);
            x.event(8, 0, 2, 0);
        });
        unchanged("36 and 38, leg and home", x -> {
            x.home();
            x.leg(10, 800, 5, 100, 820, 75);
            x.leg(10, 3150, -30, 0, Due.NONE, -600);
            x.leg(500, 1600, 0, 17, 3199, Due.NONE);
            x.leg(998, 0, 30, 300, 0, 600);
        });
        due.about("18 apart, to PARTS A to E of one COMPASS alone");
        List<Integer> whole = partsPutBack(Ship.made());
        FooledNeedle x = Ship.made();
        x.apart(0);
        due.holds("all others", whole.equals(partsPutBack(x)));
    }

    private static List<Integer> partsPutBack(FooledNeedle x) {
        for (int part = 0; part < 5; part++) {
            x.part(0, part, 17 * part - 40);
        }
        return Whole.of(x);
    }

    /** One worksheet may serve many questions: each is asked behind every other one. */
    private static void sameAgain() {
        due.about("the same question behind another has the same answer");
        int asked = 24;
        for (int first = 0; first < asked; first++) {
            FooledNeedle x = Ship.made();
            int alone = ask(x, first);
            for (int other = 0; other < asked; other++) {
                ask(x, other);
                due.is("question " + first + " behind " + other, ask(x, first), alone);
            }
        }
    }

    private static int ask(FooledNeedle x, int which) {
        switch (which) {
            case 0: return x.steer(0, 777, 5);
            case 1: return x.steer(1, 777, -5);
            case 2: return x.worst(2);
            case 3: return x.twofold(0);
            case 4: return x.twofold(2);
            case 5: return x.filled(0, 6);
            case 6: return x.leftOf(1);
            case 7: return x.left(31);
            case 8: return x.best();
            case 9: return x.bestCode(0);
            case 10: return x.bestCode(3);
            case 11: return x.foretold(0, 1, 0, 7, true);
            case 12: return x.foretoldError(1, 30, 2, 0, 7);
            case 13: return x.asOf(5, 999);
            case 14: return x.about(0, 6);
            case 15: return x.about(3, 7);
            case 16: return x.about(2, 8);
            case 17: return x.worked(4, 10, 77, false);
            case 18: return x.splitCost();
            case 19: return x.jump(0);
            case 20: return x.firstApart(300);
            case 21: return x.nearer(3);
            case 22: return x.wreck(100, -50, 1);
            default: return x.wreck(-3000, 2000, 2);
        }
    }
}
