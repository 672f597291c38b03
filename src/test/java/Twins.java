import java.util.ArrayList;
import java.util.List;
import java.util.function.Consumer;

/** Two objects that are to answer alike, whatever is asked, done again, gone back to or read from the TAPE. */
final class Twins {
    private Twins() { }

    /** The same calls behind both; one is then given calls that are to do nothing. */
    static void same(Check check, String nothing, Consumer<StraitGame> before, Consumer<StraitGame> calls) {
        alike(check, nothing, before, before.andThen(calls));
    }

    /** Other calls behind each, by which the same is to stand. */
    static void alike(Check check, String what, Consumer<StraitGame> one, Consumer<StraitGame> other) {
        StraitGame x = new StraitGame();
        one.accept(x);
        StraitGame y = new StraitGame();
        other.accept(y);
        List<Integer> want = answers(x);
        List<Integer> got = answers(y);
        check.due("all answers behind " + what + ", " + got + " for " + want, got.equals(want), true);
    }

    private static List<Integer> answers(StraitGame x) {
        List<Integer> all = new ArrayList<>();
        standing(x, all);
        flashed(x, all);
        while (x.redo()) {
            all.add(x.about(3));
            boards(x, all);
        }
        for (int box = 0; box < 3; box++) {
            all.add(x.back(box));
            boards(x, all);
        }
        all.add(x.game());
        all.add(x.fault(0));
        all.add(x.fault(1));
        all.add(x.about(0));
        all.add(x.at(0, 0));
        return all;
    }

    private static void standing(StraitGame x, List<Integer> all) {
        for (int what = 0; what <= 9; what++) {
            all.add(x.about(what));
        }
        all.add(x.fault(0));
        all.add(x.fault(1));
        boards(x, all);
        for (int keeper = 0; keeper < 2; keeper++) {
            all.add(x.moves(keeper));
            all.add(x.lost(keeper));
            all.add(x.value(keeper, 1));
            all.add(x.could(keeper));
            all.add(x.lawful(keeper));
            all.add(x.lawfulAt(keeper, 0));
        }
        all.add(x.code());
        all.add(x.length(0));
    }

    private static void boards(StraitGame x, List<Integer> all) {
        int squares = x.about(0);
        for (int keeper = 0; keeper < 2; keeper++) {
            all.add(x.turn(keeper));
            for (int square = 0; square < squares; square++) {
                all.add(x.at(keeper, square));
            }
        }
    }

    private static void flashed(StraitGame x, List<Integer> all) {
        int nights = x.about(3);
        for (int night = 0; night < nights; night++) {
            // Who NOTICED is told by about(9): with it, 60 NIGHTS would need more than an object's 512 calls.
            for (int what = 0; what < 3; what++) {
                all.add(x.book(night, what));
            }
        }
        all.add(x.differ());
        all.add(x.since());
        int time = x.about(6);
        for (int k = time - 1; k <= time; k++) {
            for (int what = 0; what < 4; what++) {
                all.add(x.storms(what, k));
            }
        }
    }
}
