import java.util.ArrayList;
import java.util.List;
import java.util.function.Consumer;
import java.util.function.Supplier;

/**
 * Two objects that were made alike, of which one is asked something that must change nothing: all that can be
 * seen of them stays alike, at once and later on, when lots, winds, the mark, works, flights and tape are used.
 */
final class Twins {
    private Twins() { }

    /** A grid where each call finds something: sand, grass, fences, walkers, houses, winds, a mark, works, a fault. */
    static DuneBench rich() {
        DuneBench x = new DuneBench(4, 2);
        x.rules(1, 40, 60, 9, 2);
        int[] heaps = {3, 1, 4, 2, 2, 5, 0, 3};
        for (int c = 0; c < 8; c++) {
            x.heap(c, heaps[c]);
        }
        x.rules(1, 40, 60, 3, 2);
        x.lay(1, 0, 30);
        x.lay(5, 0, 80);
        x.lay(2, 1, 6);
        x.lay(5, 2, 3);
        x.lay(6, 3, 2);
        x.lay(3, 3, 40);
        x.seed(471);
        Checks.blow(x, "inland 2; up 1; seaward 2; calm 1; down 1;");
        x.days(2);
        x.mark();
        x.days(2);
        x.storm(1);
        x.work(0, 6, 9, 10);
        x.work(1, 2, 90, 20);
        x.work(2, 3, 2, 30);
        x.flight(5, 2, 1);
        x.flight(3, 4, 1);
        Checks.blow(x, "up 61;");
        Checks.write(x, "down 2; calm 1; seaward 3");
        return x;
    }

    /** The rich grid with four works, twenty flights and a tape of 200 bytes. */
    static DuneBench full() {
        DuneBench x = rich();
        x.work(2, 6, 5, 40);
        for (int i = 2; i < 20; i++) {
            x.flight(i % 8, 3, 9);
        }
        x.end(0);
        for (int i = 0; i < 10; i++) {
            x.feed(0x75702031, 0x3b202020, 0x20202020, 0x20202020, 0x20202020);
        }
        return x;
    }

    /** The rich grid on this day, by days of calm; its mark is of day 2. */
    static DuneBench onDay(int day) {
        DuneBench x = rich();
        Checks.write(x, "");
        x.winds();
        for (int call = 0; call < 51 && x.about(0) < day; call++) {
            x.days(Math.min(60, day - x.about(0)));
        }
        Checks.due("the DAY of the twins", day, x.about(0));
        return x;
    }

    static void stayAlike(String what, Supplier<DuneBench> made, Consumer<DuneBench> call) {
        DuneBench touched = made.get();
        DuneBench other = made.get();
        call.accept(touched);
        compare(what + " changes nothing", look(touched), look(other));
        compare(what + " changes nothing of what comes", goOn(touched), goOn(other));
        compare(what + " changes nothing later on", look(touched), look(other));
    }

    private static void compare(String what, List<String> got, List<String> due) {
        int differing = 0;
        for (int i = 0; i < due.size(); i++) {
            if (!due.get(i).equals(got.get(i))) {
                differing++;
                System.out.println(what + ": but " + got.get(i) + " where due is " + due.get(i));
            }
        }
        Checks.due(what + ": answers that differ", 0, differing);
    }

    private static List<String> look(DuneBench x) {
        List<String> seen = new ArrayList<>();
        for (int what = 0; what <= 24; what++) {
            seen.add("about(" + what + ") " + x.about(what));
        }
        for (int c = 0; c < x.about(1) * x.about(2); c++) {
            for (int what = 0; what <= 9; what++) {
                seen.add("cell(" + c + ", " + what + ") " + x.cell(c, what));
            }
        }
        seen.add("fault(0) " + x.fault(0));
        seen.add("fault(1) " + x.fault(1));
        return seen;
    }

    private static List<String> goOn(DuneBench x) {
        List<String> seen = new ArrayList<>();
        for (int n = 1; n <= 5; n += 2) {
            seen.add("fits(" + n + ") " + x.fits(n));
            seen.add("best(0, " + n + ") " + x.best(0, n));
            seen.add("best(45, " + n + ") " + x.best(45, n));
            seen.add("bestSet(60, " + n + ") " + x.bestSet(60, n));
            seen.add("bestSet(100, " + n + ") " + x.bestSet(100, n));
        }
        seen.add("days(1) " + x.days(1));
        seen.add("about(8) " + x.about(8));
        seen.add("days(2) " + x.days(2));
        seen.add("feed " + x.feed(0x3b20646f, 0x776e2031, 0x20202020, 0x20202020, 0x2020203b));
        seen.add("winds() " + x.winds());
        seen.add("days(29) " + x.days(29));
        return seen;
    }
}
