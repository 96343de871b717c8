import java.util.function.Consumer;

/** WORKS, THE BEST, THE MARK and FLIGHTS at their edges (P13 to P19). */
public final class BestEdgeTest {
    private static final int NONE = -1;

    public static void main(String[] args) {
        Checks.mustEnd();
        withoutWorks();
        withoutHouses();
        costsJustTheMoney();
        costsTogether();
        fourWorks();
        mostMoney();
        fewestGrains();
        ofLikeOnesTheLeastCost();
        thenTheLeastSet();
        dugAsFarAsThereIs();
        dugGrainsAreNowhere();
        doneByNumbers();
        settledBehindEach();
        fenceBecomesSoHigh();
        grassBecomesSoMuch();
        fromOneDayToSixty();
        asTheyWouldFromNow();
        seasonsOfTheBest();
        nothingIsChangedByAsking();
        droppedWorksAreNotDone();
        markOfANewObject();
        withoutFlights();
        differsByMiss();
        leastAndMostMiss();
        eachFlightFits();
        twentiethFlight();
        fitsOneDayAndSixty();
        eachHop();
        fitsChangesNothing();
        markKeepsTheGrid();
        markKeepsWalkersAndHeights();
        markKeepsRulesSeedAndWinds();
        markKeepsItsPlaceInTheRound();
        markKeepsItsDay();
        markAnew();
        Checks.close("BestEdgeTest");
    }

    private static void due(String what, long want, long got) {
        Checks.due(what, want, got);
    }

    private static void bestIs(String what, DuneBench x, int money, int n, int grains, int set) {
        due(what + ": best(" + money + ", " + n + ")", grains, x.best(money, n));
        due(what + ": bestSet(" + money + ", " + n + ")", set, x.bestSet(money, n));
    }

    /** A calm GRID with SLOPE 9, where HOUSES at CELLS 0, 2, 5, 7 have HEAPS of 8, 4, 2, 1. */
    private static DuneBench calm() {
        DuneBench x = new DuneBench(4, 2);
        x.rules(1, 0, 0, 9, 0);
        int[][] houses = {{0, 8}, {2, 4}, {5, 2}, {7, 1}};
        for (int[] h : houses) {
            x.heap(h[0], h[1]);
            x.lay(h[0], 3, 999);
        }
        return x;
    }

    /** P15, P16: no WORKS: the empty set, with any money. */
    private static void withoutWorks() {
        DuneBench x = calm();
        bestIs("P15 without WORKS", x, 0, 1, 15, 0);
        bestIs("P15 without WORKS", x, 9999, 60, 15, 0);
    }

    /** P15: 'the fewest grains on HOUSES' CELLS together': without a HOUSE none. */
    private static void withoutHouses() {
        DuneBench x = new DuneBench(4, 2);
        x.heap(1, 2);
        x.work(2, 1, 2, 0);
        bestIs("P15 without HOUSES", x, 9999, 1, 0, 0);
        x.lay(1, 3, 1);
        bestIs("P15 with one", x, 9999, 1, 0, 1);
        x.lay(1, 3, 0);
        bestIs("P15 without it again", x, 9999, 1, 0, 0);
    }

    /** P15: 'whose COSTS together are not above the money': as much is not above. */
    private static void costsJustTheMoney() {
        for (int cost : new int[] {0, 1, 50, 999}) {
            DuneBench x = calm();
            x.work(2, 0, 8, cost);
            bestIs("P15 COST " + cost, x, cost, 1, 7, 1);
            bestIs("P15 COST " + cost + " and a bit more", x, cost + 1, 1, 7, 1);
            if (cost > 0) {
                bestIs("P15 COST " + cost + " and too little", x, cost - 1, 1, 15, 0);
                bestIs("P15 COST " + cost + " and nothing", x, 0, 1, 15, 0);
            }
        }
    }

    /** P15: 'COSTS together are not above the money', of several WORKS. */
    private static void costsTogether() {
        DuneBench x = calm();
        x.work(2, 0, 8, 30);
        x.work(2, 2, 4, 20);
        x.work(2, 5, 2, 10);
        int[][] asked = {{9, 15, 0}, {10, 13, 4}, {19, 13, 4}, {20, 11, 2}, {29, 11, 2}, {30, 7, 1}, {39, 7, 1}, {40, 5, 5},
            {49, 5, 5}, {50, 3, 3}, {59, 3, 3}, {60, 1, 7}, {61, 1, 7}};
        for (int[] a : asked) {
            bestIs("P15 of 30, 20, 10", x, a[0], 1, a[1], a[2]);
        }
    }

    /** P13: 'WORKS 0 .. 3': all four together are a set, bits 0 .. 3. */
    private static void fourWorks() {
        DuneBench x = calm();
        x.work(2, 0, 8, 1);
        x.work(2, 2, 4, 2);
        x.work(2, 5, 2, 4);
        x.work(2, 7, 1, 8);
        bestIs("P16 all four", x, 15, 1, 0, 15);
        bestIs("P16 all but the dearest", x, 14, 1, 1, 7);
        bestIs("P16 the first alone", x, 1, 1, 7, 1);
        x.drop();
        x.work(2, 3, 1, 0);
        x.work(2, 3, 1, 0);
        x.work(2, 3, 1, 0);
        x.work(2, 7, 1, 8);
        bestIs("P16 the fourth alone", x, 8, 1, 14, 8);
        bestIs("P16 too little for the fourth", x, 7, 1, 15, 0);
    }

    /** P15: money 0 .. 9999: what four WORKS cost at most is 3996. */
    private static void mostMoney() {
        DuneBench x = calm();
        x.work(2, 0, 8, 999);
        x.work(2, 2, 4, 999);
        x.work(2, 5, 2, 999);
        x.work(2, 7, 1, 999);
        bestIs("P15 the most", x, 9999, 1, 0, 15);
        bestIs("P15 just the four", x, 3996, 1, 0, 15);
        bestIs("P15 one less", x, 3995, 1, 1, 7);
        bestIs("P15 just one", x, 999, 1, 7, 1);
        bestIs("P15 too little for one", x, 998, 1, 15, 0);
        due("P15 beyond the most", NONE, x.best(10000, 1));
        due("P16 beyond the most", NONE, x.bestSet(10000, 1));
    }

    /** P15: 'the fewest grains' comes ahead of the COST. */
    private static void fewestGrains() {
        DuneBench x = calm();
        x.work(2, 0, 7, 1);
        x.work(2, 0, 8, 900);
        bestIs("P15 the dear one digs more", x, 900, 1, 7, 2);
        bestIs("P15 else the cheap one", x, 899, 1, 8, 1);
    }

    /** P16: 'of like ones the least COST'. */
    private static void ofLikeOnesTheLeastCost() {
        DuneBench x = calm();
        x.work(2, 0, 8, 30);
        x.work(2, 0, 9, 20);
        x.work(2, 0, 99, 25);
        bestIs("P16 the cheapest of like ones", x, 9999, 1, 7, 2);
        x.drop();
        x.work(0, 0, 5, 1);
        bestIs("P16 nothing is cheaper than a FENCE that doesn't matter", x, 9999, 1, 15, 0);
        x.drop();
        // Two cheap ones dig what a dear one does.
        x.work(2, 0, 8, 30);
        x.work(2, 0, 4, 10);
        x.work(2, 0, 4, 10);
        bestIs("P16 two together are cheaper", x, 9999, 1, 7, 6);
    }

    /** P16: 'then the least set'. */
    private static void thenTheLeastSet() {
        DuneBench x = calm();
        x.work(2, 0, 8, 20);
        x.work(2, 0, 8, 20);
        bestIs("P16 the least of like sets", x, 9999, 1, 7, 1);
        x.drop();
        x.work(0, 3, 5, 0);
        x.work(2, 0, 8, 20);
        x.work(1, 3, 5, 0);
        x.work(2, 0, 8, 20);
        bestIs("P16 without those that cost and do nothing", x, 9999, 1, 7, 2);
        x.drop();
        // Like in grains and COST: {0, 1} is 3, {2} is 4.
        x.work(2, 0, 4, 10);
        x.work(2, 0, 4, 10);
        x.work(2, 0, 8, 20);
        bestIs("P16 two of less numbers", x, 9999, 1, 7, 3);
    }

    /** P13: 'a HEAP is dug so much lower (as far as there is)'. */
    private static void dugAsFarAsThereIs() {
        for (int dug : new int[] {1, 7, 8, 9, 99}) {
            DuneBench x = calm();
            x.work(2, 0, dug, 5);
            bestIs("P13 dug by " + dug, x, 5, 1, 15 - Math.min(8, dug), 1);
        }
        DuneBench x = calm();
        x.work(2, 1, 99, 0);
        bestIs("P13 dug where there is none", x, 5, 1, 15, 0);
        x.drop();
        x.work(2, 0, 5, 1);
        x.work(2, 0, 5, 1);
        bestIs("P13 dug twice: 5, then the 3 that are left", x, 2, 1, 7, 3);
        bestIs("P13 dug once", x, 1, 1, 10, 1);
    }

    /** P13: 'these grains are nowhere then': not on the GRID, not LOST; and asking digs none. */
    private static void dugGrainsAreNowhere() {
        DuneBench x = calm();
        x.work(2, 0, 8, 0);
        bestIs("P13 dug", x, 0, 1, 7, 1);
        due("P13 all are on the GRID yet", 15, x.about(3));
        due("P13 none is LOST", 0, x.about(4) + x.about(5));
        // A HOUSE beside it gets none of them.
        x.lay(1, 3, 999);
        bestIs("P13 none is beside it", x, 0, 1, 7, 1);
    }

    /** P15: 'all are done (by numbers ..)': what slides between them tells their order. */
    private static void doneByNumbers() {
        // The HOUSE is dug, CELL 0 beside it slides into it, and is dug too late.
        bestIs("P15 the HOUSE first", twoHeaps(1, 0), 9, 1, 1, 0);
        // CELL 0 is dug first: nothing slides then.
        bestIs("P15 CELL 0 first", twoHeaps(0, 1), 9, 1, 0, 3);
    }

    /** A HEAP of 2 at CELL 0, and beside it HEAPS of 1, one of them on a HOUSE; two are dug away, in this order. */
    private static DuneBench twoHeaps(int first, int second) {
        DuneBench x = new DuneBench(4, 2);
        x.rules(1, 0, 0, 1, 0);
        x.heap(1, 1);
        x.heap(4, 1);
        x.heap(0, 2);
        x.lay(1, 3, 9);
        x.work(2, first, 9, 1);
        x.work(2, second, 9, 1);
        return x;
    }

    /** P15: '(by numbers, SETTLED)': behind each of them. */
    private static void settledBehindEach() {
        DuneBench x = new DuneBench(4, 2);
        x.rules(1, 0, 0, 9, 0);
        for (int c = 0; c < 8; c++) {
            x.heap(c, 5);
        }
        x.rules(1, 0, 0, 1, 0);
        x.lay(0, 3, 9);
        x.work(2, 0, 5, 7);
        x.work(2, 0, 5, 7);
        // Dug to 0, it gets 4 by slides; dug to 0 again, it gets 3. Had nothing slid between, it would be 4 again.
        bestIs("P15 dug once", x, 13, 1, 4, 1);
        bestIs("P15 dug twice", x, 14, 1, 3, 3);
    }

    /** P13: kind 0: 'a FENCE becomes so high', 1 .. 99, whatever it was. */
    private static void fenceBecomesSoHigh() {
        // A grain goes from x 0 by HOPS of 1 over x 1, where the FENCE may take it, to the HOUSE at x 3 of FENCE 99.
        int[][] fences = {{1, 0, 0}, {1, 1, 1}, {99, 1, 0}, {2, 1, 0}, {99, 0, 0}};
        for (int[] f : fences) {
            DuneBench x = new DuneBench(4, 2);
            x.rules(1, 0, 0, 9, 0);
            x.heap(0, 1);
            x.heap(1, f[1]);
            x.lay(1, 0, 100);
            x.lay(3, 3, 999);
            x.lay(3, 1, 99);
            Checks.blow(x, "inland 60;");
            x.work(0, 1, f[0], 1);
            boolean takes = f[2] == 0;
            bestIs("P13 a FENCE of " + f[0] + " on a HEAP of " + f[1], x, 1, 60, takes ? 0 : 1, takes ? 1 : 0);
            due("P13 no FENCE is built by asking", 0, x.cell(1, 2));
        }
        // Lower than before: the HOUSE's own FENCE of 99 becomes 1, and its HEAP of 1 isn't below that.
        DuneBench x = new DuneBench(4, 2);
        x.rules(1, 0, 0, 9, 0);
        x.heap(2, 1);
        x.heap(3, 1);
        x.lay(3, 3, 999);
        x.lay(3, 1, 99);
        Checks.blow(x, "inland 60;");
        x.work(0, 3, 1, 5);
        bestIs("P13 the FENCE there is", x, 4, 60, 2, 0);
        bestIs("P13 a lower FENCE", x, 5, 60, 1, 1);
    }

    /** P13: kind 1: 'GRASS becomes so much', 1 .. 99, more or less than it was. */
    private static void grassBecomesSoMuch() {
        // By lot 98 GRASS of 99 holds, by lot 1 GRASS of 1 doesn't.
        int[][] lots = {{99, 98, 1}, {99, 99, 0}, {1, 0, 1}, {1, 1, 0}};
        for (int[] l : lots) {
            DuneBench x = new DuneBench(4, 2);
            x.rules(2, 0, 100, 9, 0);
            x.heap(1, 1);
            x.lay(3, 3, 999);
            x.lay(3, 1, 9);
            Checks.blow(x, "inland 1;");
            boolean held = l[2] == 1;
            x.seed(Lots.seedWhere(s -> {
                // Once CELL 1 is picked, and only then, its lot falls; without GRASS none does.
                int picked = 0;
                for (int gust = 0; gust < 8; gust++) {
                    if (s.draw(8) == 1) {
                        picked++;
                        if (gust > 0 || s.draw(100) != l[1]) {
                            return false;
                        }
                    }
                }
                return picked == 1;
            }));
            x.work(1, 1, l[0], 5);
            due("P13 GRASS of " + l[0] + " by lot " + l[1], held ? 0 : 1, x.best(5, 1));
            due("P13 none grows by asking", 0, x.cell(1, 1));
        }
        // Less than it was: GRASS of 100 beside a HOUSE becomes 1, its grain is blown away, and one slides into the gap.
        DuneBench x = new DuneBench(4, 2);
        x.rules(1, 0, 0, 1, 0);
        for (int c : new int[] {1, 3, 6}) {
            x.heap(c, 1);
            x.lay(c, 0, 100);
        }
        x.heap(2, 2);
        x.lay(2, 3, 999);
        Checks.blow(x, "inland 60;");
        x.work(1, 1, 1, 5);
        bestIs("P13 as much GRASS as there is", x, 4, 60, 2, 0);
        bestIs("P13 less GRASS", x, 5, 60, 1, 1);
    }

    /** A GRID of HOUSES alone, to which a grain comes each DAY. */
    private static DuneBench supplied() {
        DuneBench x = new DuneBench(4, 2);
        x.rules(1, 0, 0, 9, 1);
        for (int c = 0; c < 8; c++) {
            x.lay(c, 3, 999);
        }
        Checks.blow(x, "inland 1;");
        return x;
    }

    /** P15: 'n DAYS (1 .. 60)': just so many go by. */
    private static void fromOneDayToSixty() {
        DuneBench x = supplied();
        for (int n : new int[] {1, 2, 59, 60}) {
            bestIs("P15 a grain a DAY", x, 0, n, n, 0);
        }
        due("P15 n 0", NONE, x.best(0, 0));
        due("P15 n 61", NONE, x.best(0, 61));
        due("P16 n 0", NONE, x.bestSet(0, 0));
        due("P16 n 61", NONE, x.bestSet(0, 61));
    }

    /** P15: 'then n DAYS go by, as they would from now': winds amid their round, SEASONS, the same lots. */
    private static void asTheyWouldFromNow() {
        for (int gone = 0; gone < 12; gone++) {
            DuneBench x = new DuneBench(6, 3);
            x.rules(1, 40, 50, 2, 2);
            for (int c = 0; c < 18; c++) {
                x.heap(c, c * 5 % 4);
                x.lay(c, 0, c % 3 == 0 ? 60 : 0);
                x.lay(c, 2, 20);
            }
            x.lay(9, 3, 50);
            x.lay(4, 3, 50);
            Checks.blow(x, "inland 2; seaward 1; up 2; calm 1; down 1;");
            x.days(22 + gone);
            int told = x.best(0, 15);
            due("P15 told twice alike", told, x.best(9999, 15));
            x.days(15);
            due("P15 from DAY " + (22 + gone) + " it comes true", told, x.cell(9, 0) + x.cell(4, 0));
        }
    }

    /**
     * A grain at CELL 0, held by GRASS of 100 alone, that a wind inland carries to the HOUSE at CELL 3 once a SEASON
     * has taken some: by WALKERS, or as the HEAP has fallen from 9 to 1 since the beginning.
     */
    private static DuneBench heldUntilTheSeason(int walkers, int fallen) {
        DuneBench x = new DuneBench(4, 2);
        x.rules(1, 0, 0, 9, 0);
        x.heap(0, 1 + fallen);
        if (fallen > 0) {
            x.storm(fallen);
        }
        x.lay(0, 0, 100);
        x.lay(0, 2, walkers);
        x.lay(3, 1, 9);
        x.lay(3, 3, 9);
        Checks.blow(x, "inland 60;");
        return x;
    }

    /** P15: DAYS 'as they would from now', with their SEASONS, from the heights of the last one on. */
    private static void seasonsOfTheBest() {
        int[][] held = {{0, 0, 0}, {20, 0, 1}, {0, 8, 1}, {0, 3, 1}};
        for (int[] h : held) {
            String what = "P15 " + h[0] + " WALKERS, fallen by " + h[1];
            DuneBench x = heldUntilTheSeason(h[0], h[1]);
            bestIs(what, x, 0, 29, 0, 0);
            bestIs(what, x, 0, 60, h[2], 0);
            x.days(60);
            due(what + ": it comes true", h[2], x.cell(3, 0));
        }
    }

    /** P15, P16: 'Nothing is changed by asking', whatever is asked. */
    private static void nothingIsChangedByAsking() {
        Twins.stayAlike("P15 best, P16 bestSet of all money and DAYS", Twins::full, x -> {
            for (int n = 1; n <= 60; n += 7) {
                for (int money = 0; money <= 100; money += 25) {
                    due("P15 best(" + money + ", " + n + ") answers", 1, x.best(money, n) >= 0 ? 1 : 0);
                    int set = x.bestSet(money, n);
                    due("P16 bestSet(" + money + ", " + n + ") is a set", 1, set >= 0 && set <= 15 ? 1 : 0);
                }
            }
        });
    }

    /** P14: dropped WORKS are in no set, and those that come have their own values. */
    private static void droppedWorksAreNotDone() {
        DuneBench x = calm();
        x.work(2, 0, 8, 5);
        x.work(2, 2, 4, 5);
        x.drop();
        bestIs("P14 none is done", x, 9999, 1, 15, 0);
        x.work(2, 5, 2, 7);
        bestIs("P14 the new one", x, 7, 1, 13, 1);
        bestIs("P14 at its own COST", x, 6, 1, 15, 0);
    }

    /** P1: 'THE MARK is this': the new GRID, of DAY 0. */
    private static void markOfANewObject() {
        DuneBench x = new DuneBench(4, 2);
        x.heap(1, 2);
        x.rules(1, 0, 0, 9, 20);
        Checks.blow(x, "inland 1;");
        x.days(5);
        due("P20 its DAY", 0, x.about(12));
        for (int c = 0; c < 8; c++) {
            x.flight(c, 0, 0);
        }
        due("P19 by its calm nothing comes", 62, x.fits(60));
    }

    /** P19: 'each FLIGHT's HEAP differs ...': without any every HOP FITS. */
    private static void withoutFlights() {
        DuneBench x = new DuneBench(4, 2);
        due("P19 without FLIGHTS", 62, x.fits(1));
        x.flight(0, 1, 0);
        due("P19 with one", 0, x.fits(1));
        x.mark();
        due("P17 without again", 62, x.fits(1));
    }

    /** P19: 'differs from what was seen by MISS at most', above and below. */
    private static void differsByMiss() {
        for (int miss = 0; miss <= 9; miss++) {
            int[][] seen = {{20 + miss, 62}, {20 - miss, 62}, {20 + miss + 1, 0}, {20 - miss - 1, 0}, {20, 62}};
            for (int[] s : seen) {
                due("P19 seen " + s[0] + " of 20, MISS " + miss, s[1], flown(20, s[0], miss));
            }
        }
    }

    /** Which HOPS FIT one FLIGHT over a GRID where every HEAP is so high. */
    private static int flown(int heap, int seen, int miss) {
        DuneBench x = new DuneBench(4, 2);
        x.rules(1, 0, 0, 9, 0);
        for (int call = 0; call < 24; call++) {
            x.heap(call % 8, heap);
        }
        x.mark();
        x.flight(6, seen, miss);
        return x.fits(1);
    }

    /** P18, P19: 'a MISS (0 .. 9)', of HEAPS and sights from none on. */
    private static void leastAndMostMiss() {
        due("P19 none seen of none, MISS 0", 62, flown(0, 0, 0));
        due("P19 1 seen of none, MISS 0", 0, flown(0, 1, 0));
        due("P19 9 seen of none, MISS 9", 62, flown(0, 9, 9));
        due("P19 10 seen of none, MISS 9", 0, flown(0, 10, 9));
        due("P19 9999 seen of none, MISS 9", 0, flown(0, 9999, 9));
        due("P19 none seen of 9, MISS 9", 62, flown(9, 0, 9));
        due("P19 none seen of 10, MISS 9", 0, flown(10, 0, 9));
    }

    /** P19: 'each FLIGHT': one that doesn't fit is enough, in any place. */
    private static void eachFlightFits() {
        for (int wrong = 0; wrong < 20; wrong++) {
            DuneBench x = new DuneBench(4, 2);
            for (int i = 0; i < 20; i++) {
                x.flight(i % 8, i == wrong ? 1 : 0, 0);
            }
            due("P19 FLIGHT " + wrong + " of 20 doesn't fit", 0, x.fits(1));
        }
        DuneBench x = new DuneBench(4, 2);
        x.flight(3, 0, 0);
        x.flight(3, 1, 0);
        due("P19 two of one CELL that can't both be", 0, x.fits(1));
    }

    /** P18: 'FLIGHTS (20 at most)': a refused one doesn't count. */
    private static void twentiethFlight() {
        DuneBench x = new DuneBench(4, 2);
        for (int i = 0; i < 20; i++) {
            x.flight(i % 8, 0, 0);
        }
        due("P18 a 21st", NONE, x.flight(0, 5, 0));
        due("P18 it doesn't count", 62, x.fits(1));
        due("P18 20 do", 20, x.about(11));
    }

    /** P19: 'n DAYS later': just so many, 1 .. 60. */
    private static void fitsOneDayAndSixty() {
        for (int n : new int[] {1, 2, 59, 60}) {
            DuneBench later = supplied();
            later.days(n);
            DuneBench x = supplied();
            x.mark();
            for (int c = 0; c < 8; c++) {
                x.flight(c, later.cell(c, 0), 0);
            }
            due("P19 just " + n + " DAYS", 62, x.fits(n));
            due("P19 a DAY less than " + n, n == 1 ? NONE : 0, x.fits(n - 1));
            due("P19 a DAY more than " + n, n == 60 ? NONE : 0, x.fits(n + 1));
        }
    }

    /** P19: 'bits 1 .. 5': HOP 1 is bit 1, HOP 5 bit 5. */
    private static void eachHop() {
        for (int hop = 1; hop <= 5; hop++) {
            DuneBench x = new DuneBench(16, 2);
            x.rules(6 - hop, 0, 100, 9, 0);
            x.heap(3, 1);
            x.seed(Lots.oneGust(32, 3, new int[] {Lots.ANY}, 4, 5, 6, 7, 8));
            Checks.blow(x, "inland 1;");
            x.mark();
            x.flight(3 + hop, 1, 0);
            due("P19 HOP " + hop + " alone", 1 << hop, x.fits(1));
            x.mark();
            x.flight(3 + hop, 0, 0);
            due("P19 all but HOP " + hop, 62 - (1 << hop), x.fits(1));
            due("P19 the HOP of now stays", 6 - hop, x.about(20));
        }
    }

    /** P19: asking changes nothing, neither now nor THE MARK. */
    private static void fitsChangesNothing() {
        Twins.stayAlike("P19 fits of all DAYS", Twins::full, x -> {
            for (int n = 1; n <= 60; n++) {
                due("P19 fits(" + n + ") has bits 1 .. 5 alone", 0, x.fits(n) & ~62);
            }
        });
    }

    /** A GRID on which all that a MARK holds matters. */
    private static DuneBench lively() {
        DuneBench x = new DuneBench(5, 4);
        x.rules(2, 40, 50, 2, 3);
        for (int c = 0; c < 20; c++) {
            x.heap(c, c * 7 % 4);
            x.lay(c, 0, c * 13 % 5 == 0 ? 50 : 0);
            x.lay(c, 1, c % 6 == 1 ? 4 : 0);
            x.lay(c, 2, c % 10);
        }
        x.lay(12, 3, 9);
        x.seed(1234);
        Checks.blow(x, "inland 2; up 1; seaward 1; down 1;");
        // Amid the CLAUSE inland, and a SEASON comes on DAY 30.
        x.days(26);
        return x;
    }

    /** What a like object has 9 DAYS on is what FLIGHTS of x saw: HOP 2 FITS, as long as THE MARK is as it was. */
    private static void fliesOver(DuneBench x) {
        DuneBench later = lively();
        later.days(9);
        for (int c = 0; c < 20; c++) {
            x.flight(c, later.cell(c, 0), 0);
        }
    }

    private static void keeps(String what, Consumer<DuneBench> change) {
        DuneBench x = lively();
        x.mark();
        fliesOver(x);
        due("P17 at first", 1 << 2, x.fits(9));
        change.accept(x);
        due("P17 THE MARK keeps " + what, 1 << 2, x.fits(9));
    }

    /** P17: 'THE MARK is as all is now': 'the whole GRID'. */
    private static void markKeepsTheGrid() {
        keeps("its HEAPS", x -> x.heap(7, 99));
        keeps("its GRASS", x -> {
            for (int c = 0; c < 20; c++) {
                x.lay(c, 0, 100);
            }
        });
        keeps("its FENCES", x -> {
            for (int c = 0; c < 20; c++) {
                x.lay(c, 1, 99);
            }
        });
        keeps("its WALKERS", x -> {
            for (int c = 0; c < 20; c++) {
                x.lay(c, 2, 20);
            }
        });
        keeps("its HOUSES", x -> {
            for (int c = 0; c < 20; c++) {
                x.lay(c, 3, 9);
            }
        });
        keeps("its heights of the last SEASON", x -> {
            for (int c = 0; c < 20; c++) {
                x.heap(c, x.cell(c, 0));
            }
        });
        keeps("all ahead of a STORM", x -> x.storm(999));
        keeps("all ahead of DAYS", x -> x.days(33));
    }

    /** P17: what a SEASON behind THE MARK goes by is THE MARK's too. */
    private static void markKeepsWalkersAndHeights() {
        int[][] held = {{0, 0, 0}, {20, 0, 1}, {0, 8, 1}};
        for (int[] h : held) {
            DuneBench x = heldUntilTheSeason(h[0], h[1]);
            x.mark();
            x.flight(3, h[2], 0);
            x.lay(0, 2, 20 - h[0]);
            x.heap(0, 2);
            // The HOPS of 1 and 3 come to CELL 3; the others go beyond it.
            due("P17 " + h[0] + " WALKERS, fallen by " + h[1], h[2] == 0 ? 62 : 10, x.fits(60));
        }
    }

    /** P17: 'RULES, SEED, ... WINDS as they are'. */
    private static void markKeepsRulesSeedAndWinds() {
        keeps("its LAY", x -> x.rules(2, 100, 50, 2, 3));
        keeps("its BARE", x -> x.rules(2, 40, 100, 2, 3));
        keeps("its SLOPE", x -> x.rules(2, 40, 50, 1, 3));
        keeps("its SUPPLY", x -> x.rules(2, 40, 50, 2, 20));
        keeps("its HOP aside", x -> x.rules(5, 40, 50, 2, 3));
        keeps("its SEED", x -> x.seed(99));
        keeps("its WINDS", x -> Checks.blow(x, "down 9;"));
        keeps("its WINDS, though there are none now", x -> Checks.blow(x, ""));
    }

    /** P17: the same winds from their first one are other winds, if THE MARK was amid their round. */
    private static void markKeepsItsPlaceInTheRound() {
        keeps("its place in the round", x -> Checks.blow(x, "inland 2; up 1; seaward 1; down 1;"));
        DuneBench x = lively();
        Checks.blow(x, "inland 2; up 1; seaward 1; down 1;");
        x.mark();
        fliesOver(x);
        due("P17 by another place it doesn't fit", 0, x.fits(9));
    }

    /** P17, P20: 'DAY': a SEASON comes as THE MARK's DAY has it. */
    private static void markKeepsItsDay() {
        DuneBench x = lively();
        x.mark();
        due("P20 THE MARK's DAY", 26, x.about(12));
        x.days(60);
        due("P20 THE MARK's DAY stays", 26, x.about(12));
        due("P20 the DAY of now", 86, x.about(0));
        fliesOver(x);
        due("P19 from THE MARK's DAY on", 1 << 2, x.fits(9));
    }

    /** P17: 'no FLIGHTS any more'; the newer MARK stands alone. */
    private static void markAnew() {
        DuneBench x = lively();
        x.mark();
        fliesOver(x);
        due("P18 FLIGHTS", 20, x.about(11));
        x.storm(999);
        x.mark();
        due("P17 no FLIGHTS any more", 0, x.about(11));
        due("P17 all FIT without", 62, x.fits(9));
        fliesOver(x);
        due("P17 the former MARK is gone", 0, x.fits(9));
    }
}
