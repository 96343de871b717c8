/** The GRID at its edges: NEIGHBOURS, SETTLED (P2, P4), SHADOW (P12) and STORM (P11). */
public final class ShoreEdgeTest {
    private static final int NONE = -1;

    public static void main(String[] args) {
        Checks.mustEnd();
        neighboursWithinAnX();
        neighboursOverTheLastY();
        neighboursOfHighTwo();
        everyCellOfTheLargest();
        justSlopeStands();
        lowestNeighbour();
        firstOfLikeNeighbours();
        lowestCellFirst();
        rulesSettle();
        heapSettlesHoles();
        heapCountsForTheSeason();
        shadowFromOneToEight();
        shadowAtLeastK();
        shadowNotBeyondSeaOrInland();
        shadowOverTheLastY();
        shadowRoundTheGrid();
        stormTakesWhatThereIs();
        stormTakesKTogether();
        stormOfEachY();
        stormIsLostToTheSea();
        stormSettlesThen();
        Checks.close("ShoreEdgeTest");
    }

    private static void due(String what, long want, long got) {
        Checks.due(what, want, got);
    }

    /** These heaps, each at most 9, on a GRID where SLOPE is 9: nothing slides. */
    private static DuneBench steep(int wide, int high, int... heaps) {
        DuneBench x = new DuneBench(wide, high);
        x.rules(1, 0, 0, 9, 0);
        for (int c = 0; c < heaps.length; c++) {
            x.heap(c, heaps[c]);
        }
        return x;
    }

    private static DuneBench settled(int slope, int wide, int high, int... heaps) {
        DuneBench x = steep(wide, high, heaps);
        x.rules(1, 0, 0, slope, 0);
        return x;
    }

    /** 'that to the right, to the left (as far as there are)': none beyond x 0 or the last x. */
    private static void neighboursWithinAnX() {
        // CELL 3 is the last of y 0, CELL 4 the first of y 1: no neighbours.
        Checks.heapsAre("P2 the last x has none to the right", settled(1, 4, 3, 0, 0, 0, 4, 0, 0, 0, 0, 0, 0, 0, 0),
                0, 0, 1, 1, 0, 0, 0, 1, 0, 0, 0, 1);
        Checks.heapsAre("P2 x 0 has none to the left", settled(1, 4, 3, 0, 0, 0, 0, 4, 0, 0, 0, 0, 0, 0, 0),
                1, 0, 0, 0, 1, 1, 0, 0, 1, 0, 0, 0);
        Checks.heapsAre("P2 nor beyond the first CELL", settled(1, 4, 3, 4, 0, 0, 0, 0, 0, 0, 0, 0, 0, 0, 0),
                1, 1, 0, 0, 1, 0, 0, 0, 1, 0, 0, 0);
        Checks.heapsAre("P2 nor beyond the last CELL", settled(1, 4, 3, 0, 0, 0, 0, 0, 0, 0, 0, 0, 0, 0, 4),
                0, 0, 0, 1, 0, 0, 0, 1, 0, 0, 1, 1);
    }

    /** 'with y one more, one less', 'behind the last y comes the first'. */
    private static void neighboursOverTheLastY() {
        for (int high = 3; high <= 10; high++) {
            int last = (high - 1) * 4;
            DuneBench x = new DuneBench(4, high);
            x.rules(1, 0, 0, 1, 0);
            x.heap(last + 1, 5);
            due("P2 HIGH " + high + ": y one more than the last is the first", 1, x.cell(1, 0));
            due("P2 HIGH " + high + ": y one less than the last", 1, x.cell(last - 4 + 1, 0));
            x = new DuneBench(4, high);
            x.rules(1, 0, 0, 1, 0);
            x.heap(1, 5);
            due("P2 HIGH " + high + ": y one less than the first is the last", 1, x.cell(last + 1, 0));
            due("P2 HIGH " + high + ": y one more than the first", 1, x.cell(5, 0));
        }
    }

    /** With HIGH 2 the CELL with y one more is that with y one less. */
    private static void neighboursOfHighTwo() {
        Checks.heapsAre("P2 HIGH 2", settled(1, 4, 2, 0, 4, 0, 0, 0, 0, 0, 0), 1, 1, 1, 0, 0, 1, 0, 0);
        Checks.heapsAre("P2 HIGH 2", settled(1, 4, 2, 0, 0, 0, 0, 0, 4, 0, 0), 0, 1, 0, 0, 1, 1, 1, 0);
    }

    /** A GRID of 16 by 10: each CELL gives what is too much to its own NEIGHBOURS, and to no others. */
    private static void everyCellOfTheLargest() {
        for (int c = 0; c < 160; c++) {
            DuneBench x = new DuneBench(16, 10);
            x.rules(1, 0, 0, 1, 0);
            // A grain for itself and for each NEIGHBOUR.
            x.heap(c, c % 16 == 0 || c % 16 == 15 ? 4 : 5);
            for (int other = 0; other < 160; other++) {
                due("P2 a HEAP at " + c + ": the HEAP of " + other, stepsBetween(c, other) <= 1 ? 1 : 0, x.cell(other, 0));
            }
        }
    }

    /** On a GRID of 16 by 10. */
    private static int stepsBetween(int c, int other) {
        int dy = Math.abs(c / 16 - other / 16);
        return Math.abs(c % 16 - other % 16) + Math.min(dy, 10 - dy);
    }

    /** 'as long as a HEAP is more than SLOPE above one of its NEIGHBOURS'. */
    private static void justSlopeStands() {
        for (int slope = 1; slope <= 9; slope++) {
            DuneBench x = new DuneBench(4, 2);
            x.rules(2, 60, 40, slope, 2);
            x.heap(5, slope);
            due("P4 a HEAP just SLOPE " + slope + " high stands", slope, x.cell(5, 0));
            x.heap(5, slope + 1);
            due("P4 one more than SLOPE " + slope + " slides", slope, x.cell(5, 0));
            due("P4 to the right", 1, x.cell(6, 0));
            due("P4 by one grain", slope + 1, x.about(3));
        }
    }

    /** 'gives a grain to the lowest of its NEIGHBOURS', not to the first that is low enough. */
    private static void lowestNeighbour() {
        // CELL 1 has 4, to its right 2, to its left 2, behind it 1, by SLOPE 2.
        Checks.heapsAre("P2 to the lowest", settled(2, 4, 2, 2, 4, 2, 0, 0, 1, 0, 0), 2, 3, 2, 0, 0, 2, 0, 0);
        Checks.heapsAre("P2 to the lowest left", settled(2, 4, 2, 0, 4, 1, 0, 0, 1, 0, 0), 1, 3, 1, 0, 0, 1, 0, 0);
        Checks.heapsAre("P2 to the lowest right", settled(2, 4, 2, 1, 4, 0, 0, 0, 1, 0, 0), 1, 3, 1, 0, 0, 1, 0, 0);
    }

    /** 'of like ones the first as told here': right, left, y one more, y one less. */
    private static void firstOfLikeNeighbours() {
        int[][] grains = {{6, 1, 0, 0, 0}, {7, 1, 1, 0, 0}, {8, 1, 1, 1, 0}, {9, 1, 1, 1, 1}};
        for (int[] g : grains) {
            // Each grain goes to the next of them; by SLOPE 5 the HEAP would keep 5 and what is beyond goes.
            DuneBench x = new DuneBench(5, 3);
            x.rules(1, 0, 0, 5, 0);
            x.heap(7, g[0]);
            due("P2 of " + g[0] + " grains, right", g[1], x.cell(8, 0));
            due("P2 of " + g[0] + " grains, left", g[2], x.cell(6, 0));
            due("P2 of " + g[0] + " grains, y one more", g[3], x.cell(12, 0));
            due("P2 of " + g[0] + " grains, y one less", g[4], x.cell(2, 0));
            due("P2 of " + g[0] + " grains, those that stay", 5, x.cell(7, 0));
        }
    }

    /** 'the lowest CELL of such': by its number, whatever its HEAP. */
    private static void lowestCellFirst() {
        // Would CELL 5 slide first, or the lower HEAP, or the higher CELL, a grain would end on CELL 10, not 9.
        Checks.heapsAre("P4 the lowest CELL first", settled(1, 4, 3, 0, 0, 4, 0, 0, 3, 0, 0, 0, 0, 0, 0),
                0, 1, 1, 1, 1, 1, 1, 0, 0, 1, 0, 0);
        Checks.heapsAre("P4 the lowest CELL first, though it is higher", settled(1, 4, 2, 0, 0, 0, 5, 0, 0, 0, 3),
                0, 1, 1, 2, 0, 1, 1, 2);
        Checks.heapsAre("P4 the lowest CELL first, though it is lower",
                settled(1, 4, 3, 4, 0, 0, 0, 0, 5, 0, 0, 0, 5, 0, 0), 1, 1, 0, 0, 2, 2, 1, 1, 2, 2, 1, 1);
    }

    /** P4: 'the GRID is SETTLED by SLOPE': at once, and by a higher SLOPE nothing moves. */
    private static void rulesSettle() {
        DuneBench x = steep(4, 2, 9, 0, 0, 0, 0, 0, 0, 0);
        x.rules(1, 0, 0, 8, 0);
        Checks.heapsAre("P4 by SLOPE 8", x, 8, 1, 0, 0, 0, 0, 0, 0);
        x.rules(1, 0, 0, 7, 0);
        Checks.heapsAre("P4 by SLOPE 7", x, 7, 1, 0, 0, 1, 0, 0, 0);
        x.rules(1, 0, 0, 9, 0);
        Checks.heapsAre("P4 by SLOPE 9 nothing comes back", x, 7, 1, 0, 0, 1, 0, 0, 0);
        x.rules(1, 0, 0, 7, 0);
        Checks.heapsAre("P4 by the same SLOPE nothing moves", x, 7, 1, 0, 0, 1, 0, 0, 0);
    }

    /** P2: 'then the GRID is SETTLED', also if the HEAP became lower. */
    private static void heapSettlesHoles() {
        DuneBench x = new DuneBench(5, 3);
        for (int pass = 0; pass < 3; pass++) {
            for (int c = 0; c < 15; c++) {
                x.heap(c, 3);
            }
        }
        due("P2 all are 3", 45, x.about(3));
        x.heap(7, 1);
        due("P2 2 below its neighbours: none slides", 1, x.cell(7, 0));
        x.heap(7, 0);
        // CELL 2 is the lowest that is 3 above it.
        due("P2 3 below its neighbours: one slides", 1, x.cell(7, 0));
        due("P2 from the lowest CELL", 2, x.cell(2, 0));
        due("P2 from no other", 42, x.about(3));
    }

    /** P2: 'which counts as its height at the last SEASON too': v itself, ahead of the slides; no other CELL's. */
    private static void heapCountsForTheSeason() {
        DuneBench x = new DuneBench(4, 2);
        x.lay(1, 0, 50);
        x.lay(2, 0, 50);
        x.heap(1, 7);
        // To CELL 2, to 0, to 5, and, as 4 is 3 above all of them, to 2 again.
        Checks.heapsAre("P2 the HEAP slid", x, 1, 3, 2, 0, 0, 1, 0, 0);
        x.days(30);
        due("P2 4 lower than v: 20 less", 30, x.cell(1, 1));
        due("P2 2 higher than at the beginning: 6 more", 56, x.cell(2, 1));
        x.heap(1, 3);
        x.days(30);
        due("P2 made anew, as high as v: 1 more", 31, x.cell(1, 1));
        due("P2 as high as at the last SEASON: 1 more", 57, x.cell(2, 1));
        // It gives one to CELL 0.
        x.heap(1, 4);
        x.days(30);
        due("P2 made anew, 1 lower than v: 5 less", 26, x.cell(1, 1));
        due("P2 as high as at the last SEASON again: 1 more", 58, x.cell(2, 1));
    }

    /** P12: 'for some k of 1 .. 8': the 8th counts, the 9th doesn't. */
    private static void shadowFromOneToEight() {
        DuneBench x = steep(16, 2);
        x.heap(0, 9);
        x.heap(31, 9);
        for (int k = 1; k <= 15; k++) {
            due("P12 " + k + " behind a HEAP of 9, inland", k <= 8 ? 1 : 0, x.cell(k, 6));
            due("P12 " + k + " behind a HEAP of 9, seaward", k <= 8 ? 1 : 0, x.cell(31 - k, 7));
        }
        x = steep(4, 10);
        x.heap(2, 9);
        for (int k = 1; k <= 9; k++) {
            due("P12 " + k + " behind a HEAP of 9, up", k <= 8 ? 1 : 0, x.cell(2 + 4 * k, 8));
            due("P12 " + k + " behind a HEAP of 9, down", k <= 8 ? 1 : 0, x.cell(2 + 4 * (10 - k), 9));
        }
    }

    /** P12: 'has a HEAP at least k above its own'. */
    private static void shadowAtLeastK() {
        for (int k = 1; k <= 8; k++) {
            for (int own = 0; own <= 1; own++) {
                DuneBench x = steep(16, 2);
                x.heap(3, k + own);
                x.heap(3 + k, own);
                due("P12 just " + k + " above it, " + k + " away", 1, x.cell(3 + k, 6));
                x.heap(3, k + own - 1);
                due("P12 one less than " + k + " above it, " + k + " away", 0, x.cell(3 + k, 6));
            }
        }
        DuneBench x = steep(4, 2, 5, 5, 0, 0, 0, 0, 0, 0);
        due("P12 a like HEAP makes no SHADOW", 0, x.cell(1, 6));
        x.heap(1, 6);
        due("P12 nor a lower one", 0, x.cell(1, 6));
    }

    /** P12: 'not beyond the sea or inland': no other y's HEAPS, and nothing there. */
    private static void shadowNotBeyondSeaOrInland() {
        DuneBench x = steep(4, 2);
        x.heap(3, 9);
        // CELL 4 comes next by its number, but is the first of y 1.
        for (int c = 4; c < 8; c++) {
            due("P12 no SHADOW over the edge inland, CELL " + c, 0, x.cell(c, 6));
        }
        x.heap(3, 0);
        x.heap(4, 9);
        for (int c = 0; c < 4; c++) {
            due("P12 no SHADOW over the edge seaward, CELL " + c, 0, x.cell(c, 7));
        }
        due("P12 x 0 has nothing ahead by a wind inland", 0, x.cell(0, 6));
        due("P12 the last x has nothing ahead by a wind seaward", 0, x.cell(7, 7));
    }

    /** P12: 'over the last y to the first'. */
    private static void shadowOverTheLastY() {
        DuneBench x = steep(4, 5);
        x.heap(4 * 4 + 1, 2);
        int[] up = {1, 1, 0, 0, 0};
        int[] down = {0, 0, 1, 1, 0};
        for (int y = 0; y < 5; y++) {
            due("P12 up, behind the last y, at y " + y, up[y], x.cell(4 * y + 1, 8));
            due("P12 down, behind the last y, at y " + y, down[y], x.cell(4 * y + 1, 9));
        }
        x = steep(4, 5);
        x.heap(1, 2);
        up = new int[] {0, 1, 1, 0, 0};
        down = new int[] {0, 0, 0, 1, 1};
        for (int y = 0; y < 5; y++) {
            due("P12 up, behind the first y, at y " + y, up[y], x.cell(4 * y + 1, 8));
            due("P12 down, behind the first y, at y " + y, down[y], x.cell(4 * y + 1, 9));
        }
    }

    /** P12: on a low GRID the CELL k away may be the CELL itself, or one that was looked at. */
    private static void shadowRoundTheGrid() {
        for (int high = 2; high <= 8; high++) {
            DuneBench x = steep(4, high);
            x.heap(1, 9);
            due("P12 HIGH " + high + ": no HEAP is in its own SHADOW, up", 0, x.cell(1, 8));
            due("P12 HIGH " + high + ": no HEAP is in its own SHADOW, down", 0, x.cell(1, 9));
            for (int y = 1; y < high; y++) {
                due("P12 HIGH " + high + ": all others are, up, y " + y, 1, x.cell(4 * y + 1, 8));
                due("P12 HIGH " + high + ": all others are, down, y " + y, 1, x.cell(4 * y + 1, 9));
            }
        }
    }

    /** P11: 'the HEAP loses what there is': never below 0, and no more than the y has. */
    private static void stormTakesWhatThereIs() {
        DuneBench x = steep(4, 2, 1, 0, 2, 0, 0, 0, 0, 3);
        due("P11 storm(999) takes all there is", 6, x.storm(999));
        Checks.heapsAre("P11 none is below 0", x, 0, 0, 0, 0, 0, 0, 0, 0);
        due("P11 a storm on none", 0, x.storm(1));
        due("P11 a storm on none", 0, x.storm(999));
        due("P11 LOST to the sea", 6, x.about(4));
    }

    /** P11: 'k together at most', from x 0 on. */
    private static void stormTakesKTogether() {
        int[][] cut = {{1, 1, 3, 4, 2}, {2, 0, 3, 4, 2}, {3, 0, 2, 4, 2}, {5, 0, 0, 4, 2}, {6, 0, 0, 3, 2}, {9, 0, 0, 0, 2},
            {10, 0, 0, 0, 1}, {11, 0, 0, 0, 0}, {12, 0, 0, 0, 0}};
        for (int[] k : cut) {
            DuneBench x = steep(4, 2, 2, 3, 4, 2, 0, 0, 0, 0);
            due("P11 storm(" + k[0] + ")", Math.min(11, k[0]), x.storm(k[0]));
            Checks.heapsAre("P11 storm(" + k[0] + ")", x, k[1], k[2], k[3], k[4], 0, 0, 0, 0);
        }
        // The most of a storm: 999 of more than that in each y.
        DuneBench x = new DuneBench(4, 2);
        x.heap(0, 999);
        x.heap(7, 999);
        x.heap(2, 999);
        int all = x.about(3);
        due("P11 all of them", 1, all > 2200 ? 1 : 0);
        due("P11 storm(999) of high HEAPS", 2 * 999, x.storm(999));
        due("P11 what stays", all - 2 * 999, x.about(3));
    }

    /** P11: 'for each y': k of every one, from the first to the last. */
    private static void stormOfEachY() {
        for (int high = 2; high <= 10; high++) {
            DuneBench x = steep(4, high);
            for (int y = 0; y < high; y++) {
                x.heap(4 * y, 2);
                x.heap(4 * y + 3, 1);
            }
            due("P11 HIGH " + high + ", storm(1)", high, x.storm(1));
            due("P11 HIGH " + high + ", storm(2)", 2 * high, x.storm(2));
            due("P11 HIGH " + high + ", nothing stays", 0, x.about(3));
        }
    }

    /** P11: 'these are LOST to the sea', not inland, and a refused storm loses none. */
    private static void stormIsLostToTheSea() {
        DuneBench x = steep(4, 2, 2, 0, 0, 0, 1, 0, 0, 0);
        x.storm(1);
        due("P11 LOST to the sea", 2, x.about(4));
        due("P11 not inland", 0, x.about(5));
        due("P11 a storm of 0", NONE, x.storm(0));
        due("P11 a storm of 1000", NONE, x.storm(1000));
        due("P11 LOST to the sea yet", 2, x.about(4));
        x.storm(1);
        due("P11 LOST together", 3, x.about(4));
    }

    /** P11: 'SETTLED then': behind the last y, not behind each. */
    private static void stormSettlesThen() {
        DuneBench x = settled(1, 4, 2, 1, 0, 0, 0, 2, 1, 0, 0);
        due("P11 storm(1)", 2, x.storm(1));
        // Behind y 0 alone CELL 4 would be 2 above CELL 0.
        Checks.heapsAre("P11 y 1 is cut ahead of any slide", x, 0, 0, 0, 0, 1, 1, 0, 0);
        x = settled(2, 4, 2, 3, 3, 0, 0, 3, 3, 0, 0);
        Checks.heapsAre("P11 before", x, 3, 2, 1, 0, 3, 2, 1, 0);
        due("P11 storm(3)", 6, x.storm(3));
        Checks.heapsAre("P11 2 above stands", x, 0, 2, 1, 0, 0, 2, 1, 0);
        x.rules(1, 0, 0, 1, 0);
        Checks.heapsAre("P11 by SLOPE 1 it slides", x, 1, 1, 1, 0, 1, 1, 1, 0);
        x = settled(1, 4, 2, 1, 2, 2, 1, 1, 2, 2, 1);
        due("P11 storm(1)", 2, x.storm(1));
        Checks.heapsAre("P11 then it slides", x, 1, 1, 2, 1, 1, 1, 2, 1);
    }
}
