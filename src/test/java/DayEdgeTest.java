/** A DAY at its edges (P10): SUPPLY, what is lifted, HOPS over the edges, what is laid, HOUSES, SEASONS, the last DAY. */
public final class DayEdgeTest {
    private static final int NONE = -1;
    private static final String[] WORDS = {"inland", "seaward", "up", "down"};
    private static final int[] DX = {1, -1, 0, 0};
    private static final int[] DY = {0, 0, 1, -1};

    public static void main(String[] args) {
        Checks.mustEnd();
        calmTakesNoLots();
        noSupply();
        mostSupply();
        supplyByInlandAlone();
        supplyFromTheFirstYToTheLast();
        supplySettlesEachTime();
        noHeapNothingMore();
        nothingMoreIsDrawn();
        laidWithoutALot();
        houseHolds();
        shadowHolds();
        shadowHoldsFromEightAway();
        grassHoldsByLotsBelowIt();
        noGrassNoLot();
        hopsInlandAndSeaward();
        hopsOverTheLastY();
        liftedThenSettled();
        laidThenSettled();
        tenthHopInland();
        tenthHopSeaward();
        tenthHopUpAndDown();
        tenthHopTakesNoLot();
        laidInShadow();
        laidBelowTheFence();
        laidBelowTheHighestFence();
        laidByLay();
        laidByBare();
        reachedByLimit();
        reachedOnTheDay();
        reachedOnce();
        seasonsByThirties();
        seasonByTheRise();
        seasonByTheFall();
        seasonWalkers();
        seasonWithinNoughtAndHundred();
        seasonWithoutGrass();
        seasonSinceTheLast();
        theLastDay();
        Checks.close("DayEdgeTest");
    }

    private static void due(String what, long want, long got) {
        Checks.due(what, want, got);
    }

    /** A GRID with SLOPE 9 and without SUPPLY, of one wind. */
    private static DuneBench windy(int wide, int high, String word, int hop, int lay, int bare) {
        DuneBench x = new DuneBench(wide, high);
        x.rules(hop, lay, bare, 9, 0);
        Checks.blow(x, word + " 60;");
        return x;
    }

    /** Each CELL has a HOUSE, so that nothing is lifted and no lots fall but those of SUPPLY and of gusts. */
    private static DuneBench housed(int wide, int high) {
        DuneBench x = new DuneBench(wide, high);
        for (int c = 0; c < wide * high; c++) {
            x.lay(c, 3, 999);
        }
        return x;
    }

    private static void suppliedAs(String what, DuneBench x, Lots lots, int grains) {
        int high = x.about(2);
        int[] came = new int[high];
        for (int i = 0; i < grains; i++) {
            came[lots.draw(high)]++;
        }
        for (int y = 0; y < high; y++) {
            due(what + ", y " + y, came[y], x.cell(y * x.about(1), 0));
        }
    }

    /** 'By a wind (not calm)': calm DAYS draw nothing. */
    private static void calmTakesNoLots() {
        DuneBench x = housed(4, 10);
        x.rules(1, 0, 0, 9, 9);
        x.seed(5);
        Checks.blow(x, "calm 2; inland 1;");
        x.days(3);
        suppliedAs("P10 the first DRAWS are of the third DAY", x, new Lots(5), 9);
    }

    /** 'SUPPLY (0 .. 20 grains a DAY)': by 0 none come, and nothing is drawn for them. */
    private static void noSupply() {
        DuneBench x = windy(4, 2, "inland", 1, 0, 100);
        x.heap(1, 1);
        x.seed(Lots.oneGust(8, 1, new int[] {Lots.ANY}, 2));
        x.days(1);
        Checks.heapsAre("P10 the first DRAW is the gust's", x, 0, 0, 1, 0, 0, 0, 0, 0);
        x.days(59);
        due("P10 no grain came", 0, x.about(6));
    }

    /** 'SUPPLY (0 .. 20 grains a DAY)': by 20 as many come, each by a DRAW. */
    private static void mostSupply() {
        DuneBench x = housed(4, 10);
        x.rules(1, 0, 0, 9, 20);
        Checks.blow(x, "inland 1;");
        x.days(1);
        due("P10 20 grains came", 20, x.about(6));
        due("P10 they are on the GRID", 20, x.about(3));
        suppliedAs("P10 20 grains came", x, new Lots(1), 20);
        x.days(59);
        due("P10 20 grains a DAY", 1200, x.about(6));
    }

    /** '(1) By a wind inland'. */
    private static void supplyByInlandAlone() {
        String[] winds = {"inland 1;", "seaward 1;", "up 1;", "down 1;", "calm 1;"};
        for (int w = 0; w < 5; w++) {
            DuneBench x = housed(4, 2);
            x.rules(1, 0, 0, 9, 3);
            Checks.blow(x, winds[w]);
            x.days(4);
            due("P10 SUPPLY by " + winds[w], w == 0 ? 12 : 0, x.about(6));
            due("P10 on the GRID by " + winds[w], w == 0 ? 12 : 0, x.about(3));
        }
    }

    /** 'a DRAW below HIGH: the CELL (0, that)': from y 0 to the last. */
    private static void supplyFromTheFirstYToTheLast() {
        for (int high = 2; high <= 10; high++) {
            int h = high;
            for (int y : new int[] {0, high - 1}) {
                DuneBench x = housed(4, high);
                x.rules(1, 0, 0, 9, 1);
                x.seed(Lots.seedWhere(l -> l.draw(h) == y));
                Checks.blow(x, "inland 1;");
                x.days(1);
                due("P10 HIGH " + high + ": a grain at y " + y, 1, x.cell(4 * y, 0));
                due("P10 HIGH " + high + ": one alone", 1, x.about(3));
            }
        }
    }

    /** 'SETTLED each time'. */
    private static void supplySettlesEachTime() {
        DuneBench x = housed(4, 2);
        x.rules(1, 0, 0, 1, 4);
        x.seed(Lots.seedWhere(l -> l.draw(2) == 1 && l.draw(2) == 1 && l.draw(2) == 1 && l.draw(2) == 0));
        Checks.blow(x, "inland 1;");
        x.days(1);
        // y 1 has 2: one to the right; 2 again: one to y 0; which gets a second: to the right. All at once: 1 0, 2 1.
        Checks.heapsAre("P10 each grain slides by itself", x, 1, 1, 0, 0, 1, 1, 0, 0);
    }

    /** 'nothing more, if it has no HEAP'. */
    private static void noHeapNothingMore() {
        for (String word : WORDS) {
            DuneBench x = windy(4, 2, word, 1, 0, 0);
            x.lay(1, 0, 50);
            x.days(60);
            Checks.heapsAre("P10 nothing is lifted where there is none, " + word, x, 0, 0, 0, 0, 0, 0, 0, 0);
            due("P10 nothing is LOST, " + word, 0, x.about(4) + x.about(5));
        }
    }

    /**
     * By it the first gust picks this CELL, the second one probe, and the others none of these to be avoided. Had a
     * lot fallen for the first one, nothing would pick probe.
     */
    private static int twoGusts(int first, int probe, int... avoided) {
        return Lots.seedWhere(l -> {
            boolean asWanted = l.draw(8) == first && l.draw(8) == probe;
            for (int draws = 2; asWanted && draws < 9; draws++) {
                int other = l.draw(65536) % 8;
                asWanted = other != probe;
                for (int a : avoided) {
                    asWanted &= other != a;
                }
            }
            return asWanted;
        });
    }

    /** 'nothing more': for a CELL without a HEAP, in SHADOW or with a HOUSE no lot falls, though it has GRASS. */
    private static void nothingMoreIsDrawn() {
        int[][] held = {{0, 0, 0}, {1, 3, 0}, {1, 0, 999}};
        for (int[] h : held) {
            String what = "P10 no lot: HEAP " + h[0] + ", " + h[1] + " ahead, LIMIT " + h[2];
            DuneBench x = windy(4, 2, "inland", 1, 0, 100);
            x.heap(0, h[1]);
            x.lay(0, 3, 999);
            x.heap(1, h[0]);
            x.lay(1, 0, 50);
            x.lay(1, 3, h[2]);
            x.heap(5, 1);
            x.seed(twoGusts(1, 5, 6));
            x.days(1);
            Checks.heapsAre(what, x, h[1], h[0], 0, 0, 0, 0, 1, 0);
        }
    }

    /** 'in SHADOW, its HEAP is below its FENCE, or a DRAW': ahead of the others nothing is drawn. */
    private static void laidWithoutALot() {
        for (int fence = 0; fence <= 1; fence++) {
            DuneBench x = windy(4, 2, "inland", 2, 0, 100);
            x.heap(0, 1);
            x.heap(1, 1 - fence);
            x.lay(1, 3, 999);
            x.lay(2, 1, fence);
            x.heap(4, 1);
            x.seed(twoGusts(0, 4, 2, 6));
            x.days(1);
            Checks.heapsAre("P10 laid without a lot, FENCE " + fence, x, 0, 1 - fence, 1, 0, 0, 0, 1, 0);
        }
    }

    /** 'or has a HOUSE': of any LIMIT; without one it is lifted. */
    private static void houseHolds() {
        for (int limit : new int[] {0, 1, 999}) {
            DuneBench x = windy(4, 2, "inland", 1, 0, 0);
            x.heap(1, 2);
            x.lay(1, 3, limit);
            x.days(60);
            due("P10 a HOUSE of LIMIT " + limit, limit == 0 ? 0 : 2, x.cell(1, 0));
            due("P10 LOST inland by LIMIT " + limit, limit == 0 ? 2 : 0, x.about(5));
        }
    }

    /** 'is in SHADOW': by one grain more ahead of it; a like HEAP makes none. */
    private static void shadowHolds() {
        for (int ahead = 0; ahead <= 3; ahead++) {
            DuneBench x = windy(4, 2, "inland", 1, 0, 0);
            x.heap(0, ahead);
            x.lay(0, 3, 999);
            x.heap(1, 2);
            x.days(60);
            // Of 2 the one is lifted that stands above what is ahead, or like it.
            due("P10 behind a HEAP of " + ahead, ahead == 3 ? 2 : Math.max(0, ahead - 1), x.cell(1, 0));
        }
    }

    /** 'is in SHADOW', 'for some k of 1 .. 8': a HEAP 8 away holds, one 9 away doesn't. */
    private static void shadowHoldsFromEightAway() {
        for (int away = 7; away <= 9; away++) {
            DuneBench x = windy(16, 2, "inland", 1, 0, 0);
            x.heap(1, 9);
            x.lay(1, 3, 999);
            x.heap(1 + away, 1);
            x.days(60);
            due("P10 " + away + " behind a HEAP 8 above it", away <= 8 ? 1 : 0, x.cell(1 + away, 0));
        }
    }

    /** 'or if it has GRASS and a DRAW below 100 is below that'. */
    private static void grassHoldsByLotsBelowIt() {
        int[][] lots = {{1, 0, 1}, {1, 1, 0}, {50, 49, 1}, {50, 50, 0}, {99, 98, 1}, {99, 99, 0}, {100, 99, 1}, {100, 0, 1}};
        for (int[] l : lots) {
            DuneBench x = windy(4, 2, "inland", 1, 0, 100);
            x.heap(1, 1);
            x.lay(1, 0, l[0]);
            boolean held = l[2] == 1;
            x.seed(Lots.oneGust(8, 1, held ? new int[] {l[1]} : new int[] {l[1], Lots.ANY}, held ? 1 : 2));
            x.days(1);
            due("P10 GRASS " + l[0] + ", lot " + l[1] + ": held", l[2], x.cell(1, 0));
            due("P10 GRASS " + l[0] + ", lot " + l[1] + ": lifted", 1 - l[2], x.cell(2, 0));
        }
    }

    /** 'if it has GRASS and a DRAW': without GRASS nothing is drawn for it. */
    private static void noGrassNoLot() {
        DuneBench x = windy(4, 2, "inland", 2, 0, 50);
        x.heap(1, 1);
        x.seed(Lots.oneGust(8, 1, new int[] {49}, 3));
        x.days(1);
        due("P10 the first lot is BARE's: 49 is below 50", 1, x.cell(3, 0));
        x = windy(4, 2, "inland", 2, 0, 50);
        x.heap(1, 1);
        x.seed(Lots.oneGust(8, 1, new int[] {50}));
        x.days(1);
        due("P10 the first lot is BARE's: 50 isn't", 1, x.about(5));
    }

    /** 'beyond the sea or inland it is gone (LOST there)': the last CELL is not beyond. */
    private static void hopsInlandAndSeaward() {
        for (int wind = 0; wind < 2; wind++) {
            for (int hop = 1; hop <= 5; hop++) {
                for (int from = 0; from < 4; from++) {
                    int to = from + hop * DX[wind];
                    boolean gone = to < 0 || to > 3;
                    String what = "P10 " + WORDS[wind] + " from x " + from + " by HOP " + hop;
                    DuneBench x = windy(4, 2, WORDS[wind], hop, 0, 100);
                    x.heap(4 + from, 1);
                    x.seed(gone ? Lots.oneGust(8, 4 + from, new int[0])
                            : Lots.oneGust(8, 4 + from, new int[] {Lots.ANY}, 4 + to));
                    x.days(1);
                    due(what + ": on the GRID", gone ? 0 : 1, x.about(3));
                    due(what + ": where it lies", gone ? NONE : 1, gone ? NONE : x.cell(4 + to, 0));
                    due(what + ": LOST to the sea", gone && wind == 1 ? 1 : 0, x.about(4));
                    due(what + ": LOST inland", gone && wind == 0 ? 1 : 0, x.about(5));
                }
            }
        }
    }

    /** 'up (y more) or down (y less)', 'behind the last y comes the first': nothing is gone there. */
    private static void hopsOverTheLastY() {
        for (int high = 2; high <= 4; high++) {
            for (int wind = 2; wind < 4; wind++) {
                for (int hop = 1; hop <= 5; hop++) {
                    for (int from = 0; from < high; from++) {
                        int to = Math.floorMod(from + hop * DY[wind], high);
                        String what = "P10 HIGH " + high + ", " + WORDS[wind] + " from y " + from + " by HOP " + hop;
                        DuneBench x = windy(4, high, WORDS[wind], hop, 0, 100);
                        x.heap(4 * from + 2, 1);
                        x.seed(Lots.oneGust(4 * high, 4 * from + 2, new int[] {Lots.ANY}, 4 * to + 2));
                        x.days(1);
                        due(what + ": to y " + to, 1, x.cell(4 * to + 2, 0));
                        due(what + ": it alone", 1, x.about(3));
                        due(what + ": nothing is LOST", 0, x.about(4) + x.about(5));
                    }
                }
            }
        }
    }

    /** 'Else a grain is lifted, SETTLED; it goes': what slides into the gap does so ahead of the HOP. */
    private static void liftedThenSettled() {
        DuneBench x = windy(4, 2, "inland", 1, 0, 0);
        x.rules(1, 0, 0, 1, 0);
        int[] heaps = {0, 1, 2, 1, 0, 1, 1, 1};
        for (int c : new int[] {0, 1, 4, 5, 6, 3, 7, 2}) {
            x.heap(c, heaps[c]);
            x.lay(c, 3, c == 1 ? 0 : 999);
        }
        Checks.heapsAre("P10 nothing slides at first", x, heaps);
        x.lay(2, 1, 2);
        x.days(60);
        // CELL 1's grain is lifted, CELL 2 gives it one and is below its FENCE then: there the grain is laid.
        Checks.heapsAre("P10 the gap is filled first", x, heaps);
        due("P10 nothing is LOST", 0, x.about(5));
    }

    /** 'Laid: the HEAP is one more, SETTLED'. */
    private static void laidThenSettled() {
        DuneBench x = windy(4, 2, "inland", 1, 100, 0);
        x.rules(1, 100, 0, 1, 0);
        x.heap(1, 1);
        x.heap(2, 1);
        x.lay(2, 3, 999);
        x.lay(3, 3, 999);
        x.days(60);
        Checks.heapsAre("P10 laid on CELL 2 it slides to the right", x, 0, 0, 1, 1, 0, 0, 0, 0);
    }

    /** The HEAP of 1 at from is lifted once; where it is laid GRASS of 100 holds it. */
    private static DuneBench carried(int wide, int high, int wind, int hop, int from, int to) {
        DuneBench x = windy(wide, high, WORDS[wind], hop, 0, 0);
        x.heap(from, 1);
        if (to != NONE) {
            x.lay(to, 0, 100);
        }
        x.days(60);
        return x;
    }

    /** 'it is laid if this is its 10th HOP'. */
    private static void tenthHopInland() {
        for (int from = 0; from <= 5; from++) {
            DuneBench x = carried(16, 2, 0, 1, from, from + 10);
            due("P10 the 10th HOP from x " + from, 1, x.cell(from + 10, 0));
        }
        DuneBench x = carried(16, 2, 0, 1, 6, NONE);
        due("P10 its 10th HOP is beyond: LOST inland", 1, x.about(5));
        due("P10 and no more on the GRID", 0, x.about(3));
    }

    /** 'if this is its 10th HOP', with the wind to the sea. */
    private static void tenthHopSeaward() {
        for (int from = 10; from <= 15; from++) {
            DuneBench x = carried(16, 2, 1, 1, from, from - 10);
            due("P10 the 10th HOP from x " + from, 1, x.cell(from - 10, 0));
        }
        DuneBench x = carried(16, 2, 1, 1, 9, NONE);
        due("P10 its 10th HOP is beyond: LOST to the sea", 1, x.about(4));
        due("P10 and no more on the GRID", 0, x.about(3));
    }

    /** 'if this is its 10th HOP', over the last y and the first. */
    private static void tenthHopUpAndDown() {
        for (int high = 2; high <= 10; high++) {
            for (int hop = 1; hop <= 5; hop++) {
                for (int wind = 2; wind < 4; wind++) {
                    int y = Math.floorMod(10 * hop * DY[wind], high);
                    DuneBench x = carried(4, high, wind, hop, 1, 4 * y + 1);
                    due("P10 HIGH " + high + ", HOP " + hop + ", " + WORDS[wind] + ": the 10th HOP", 1, x.cell(4 * y + 1, 0));
                }
            }
        }
    }

    /** On its 10th HOP nothing is drawn; ahead of it nine lots were. */
    private static void tenthHopTakesNoLot() {
        DuneBench x = windy(4, 3, "up", 1, 0, 0);
        x.heap(1, 1);
        x.seed(8);
        Lots lots = new Lots(8);
        int at = 1;
        for (int day = 0; day < 12; day++) {
            x.days(1);
            for (int gust = 0; gust < 12; gust++) {
                if (lots.draw(12) == at) {
                    for (int hop = 1; hop <= 9; hop++) {
                        lots.draw(100);
                    }
                    at = (at + 40) % 12;
                }
            }
            due("P10 nine lots for ten HOPS, day " + day, 1, x.cell(at, 0));
        }
    }

    /** 'the CELL is in SHADOW': it is laid without a lot. */
    private static void laidInShadow() {
        for (int from = 0; from <= 1; from++) {
            DuneBench x = windy(16, 2, "inland", 5, 0, 0);
            x.heap(3, 2);
            x.lay(3, 3, 999);
            x.heap(from, 1);
            x.lay(5, 0, 100);
            x.days(60);
            // x 5 is 2 behind the HEAP of 2, x 6 is 3 behind it.
            due("P10 laid in SHADOW, from x " + from, from == 0 ? 1 : 0, x.cell(5, 0));
            due("P10 else LOST, from x " + from, from == 0 ? 0 : 1, x.about(5));
        }
    }

    /** 'its HEAP is below its FENCE': by one grain; like it, it isn't. */
    private static void laidBelowTheFence() {
        for (int fence = 0; fence <= 4; fence++) {
            for (int heap = 0; heap <= 5; heap++) {
                String what = "P10 a FENCE of " + fence + " on a HEAP of " + heap;
                DuneBench x = windy(4, 2, "inland", 2, 0, 0);
                x.heap(1, 1);
                x.heap(3, heap);
                x.lay(3, 3, 999);
                x.lay(3, 1, fence);
                x.days(60);
                due(what + ": laid", heap < fence ? heap + 1 : heap, x.cell(3, 0));
                due(what + ": LOST", heap < fence ? 0 : 1, x.about(5));
                due(what + ": the FENCE stays", fence, x.cell(3, 2));
            }
        }
    }

    /** 'its HEAP is below its FENCE', 'to 99 high'. */
    private static void laidBelowTheHighestFence() {
        for (int heap = 97; heap <= 99; heap++) {
            DuneBench x = new DuneBench(4, 2);
            x.rules(1, 0, 0, 9, 0);
            for (int call = 0; call < 48; call++) {
                x.heap(call % 8, heap);
            }
            for (int c = 0; c < 8; c++) {
                x.lay(c, 3, c == 2 ? 0 : 999);
                due("P10 all are " + heap, heap, x.cell(c, 0));
            }
            x.lay(3, 1, 99);
            x.seed(Lots.oneGust(8, 2, heap < 99 ? new int[0] : new int[] {Lots.ANY}, 2));
            Checks.blow(x, "inland 1;");
            x.days(1);
            due("P10 a FENCE of 99 on a HEAP of " + heap, Math.min(99, heap + 1), x.cell(3, 0));
            due("P10 LOST inland", heap < 99 ? 0 : 1, x.about(5));
        }
    }

    /** 'or a DRAW below 100 is below LAY'. */
    private static void laidByLay() {
        int[][] lots = {{0, 0, 0}, {0, 99, 0}, {1, 0, 1}, {1, 1, 0}, {60, 59, 1}, {60, 60, 0}, {99, 98, 1}, {99, 99, 0},
            {100, 99, 1}};
        for (int[] l : lots) {
            for (int bare : new int[] {0, 100}) {
                DuneBench x = windy(4, 2, "inland", 1, l[0], bare);
                x.heap(1, 1);
                x.heap(2, 1);
                x.lay(2, 3, 999);
                x.seed(Lots.oneGust(8, 1, new int[] {l[1]}, 3));
                x.days(1);
                // If it goes on, it comes into the SHADOW of CELL 2.
                Checks.heapsAre("P10 LAY " + l[0] + ", lot " + l[1] + ", BARE " + bare, x, 0, 0, 1 + l[2], 1 - l[2]);
            }
        }
    }

    /** '(BARE, if the HEAP is 0)'. */
    private static void laidByBare() {
        int[][] lots = {{0, 0, 0}, {0, 99, 0}, {1, 0, 1}, {1, 1, 0}, {40, 39, 1}, {40, 40, 0}, {99, 98, 1}, {99, 99, 0},
            {100, 99, 1}};
        for (int[] l : lots) {
            for (int lay : new int[] {0, 100}) {
                DuneBench x = windy(4, 2, "inland", 2, lay, l[0]);
                x.heap(1, 1);
                x.seed(Lots.oneGust(8, 1, new int[] {l[1]}, 3));
                x.days(1);
                due("P10 BARE " + l[0] + ", lot " + l[1] + ", LAY " + lay + ": laid", l[2], x.cell(3, 0));
                due("P10 BARE " + l[0] + ", lot " + l[1] + ", LAY " + lay + ": LOST", 1 - l[2], x.about(5));
            }
        }
    }

    /** 'each HOUSE whose HEAP is LIMIT or more'. */
    private static void reachedByLimit() {
        for (int limit = 1; limit <= 4; limit++) {
            for (int heap = 0; heap <= 5; heap++) {
                DuneBench x = new DuneBench(4, 2);
                x.rules(1, 0, 0, 9, 0);
                x.heap(6, heap);
                x.lay(6, 3, limit);
                x.days(1);
                due("P10 LIMIT " + limit + ", HEAP " + heap, heap >= limit ? 1 : NONE, x.cell(6, 5));
            }
        }
        for (int heap = 998; heap <= 999; heap++) {
            DuneBench x = new DuneBench(4, 2);
            x.rules(1, 0, 0, 9, 0);
            for (int call = 0; call < 48; call++) {
                x.heap(call % 8, heap);
            }
            x.lay(6, 3, 999);
            x.days(1);
            due("P10 LIMIT 999, HEAP " + heap, heap == 999 ? 1 : NONE, x.cell(6, 5));
        }
    }

    /** 'The DAY is one more; each HOUSE ... is REACHED on this DAY': behind the wind of the same DAY. */
    private static void reachedOnTheDay() {
        DuneBench x = housed(4, 2);
        x.rules(1, 0, 0, 9, 1);
        x.lay(0, 3, 3);
        x.lay(4, 3, 5);
        x.seed(21);
        Checks.blow(x, "inland 1;");
        x.days(12);
        Lots lots = new Lots(21);
        int[] grains = {0, 0};
        int[] days = {NONE, NONE};
        for (int day = 1; day <= 12; day++) {
            grains[lots.draw(2)]++;
            for (int gust = 0; gust < 8; gust++) {
                lots.draw(8);
            }
            for (int y = 0; y < 2; y++) {
                if (days[y] == NONE && grains[y] >= 3 + 2 * y) {
                    days[y] = day;
                }
            }
        }
        due("P10 the HOUSE at y 0 is REACHED", days[0], x.cell(0, 5));
        due("P10 the HOUSE at y 1 is REACHED", days[1], x.cell(4, 5));
        due("P10 the others aren't", NONE, x.cell(1, 5));
        due("P10 both are, on other DAYS", 1, days[0] > 0 && days[1] > 0 && days[0] != days[1] ? 1 : 0);
    }

    /** 'and which wasn't REACHED': the first DAY stays. */
    private static void reachedOnce() {
        DuneBench x = new DuneBench(4, 2);
        x.heap(6, 2);
        x.lay(6, 3, 2);
        due("P10 not REACHED ahead of a DAY", NONE, x.cell(6, 5));
        x.days(3);
        due("P10 on the first DAY", 1, x.cell(6, 5));
        x.heap(6, 0);
        x.days(1);
        x.heap(6, 2);
        x.days(1);
        due("P10 on the first DAY yet", 1, x.cell(6, 5));
        x.storm(999);
        due("P10 a STORM doesn't change it", 1, x.cell(6, 5));
    }

    /** 'If the DAY is a multiple of 30: SEASON'. */
    private static void seasonsByThirties() {
        DuneBench x = new DuneBench(4, 2);
        x.lay(2, 0, 50);
        for (int day = 1; day <= 125; day++) {
            x.days(1);
            due("P10 GRASS on DAY " + day, 50 + day / 30, x.cell(2, 1));
        }
        x = new DuneBench(4, 2);
        x.lay(2, 0, 50);
        x.days(29);
        due("P10 to DAY 29", 50, x.cell(2, 1));
        x.days(60);
        due("P10 to DAY 89: two SEASONS", 52, x.cell(2, 1));
        x.days(1);
        due("P10 to DAY 90: three", 53, x.cell(2, 1));
    }

    /** '0: 1 more, to 3: 6 more, to 6: 2 more, else 30 less'. */
    private static void seasonByTheRise() {
        int[][] grown = {{0, 1}, {1, 6}, {2, 6}, {3, 6}, {4, 2}, {5, 2}, {6, 2}, {7, -30}, {8, -30}, {9, -30}};
        for (int[] g : grown) {
            DuneBench x = housed(4, 2);
            x.lay(0, 0, 50);
            x.rules(1, 0, 0, 9, g[0]);
            x.seed(Lots.seedWhere(l -> {
                int elsewhere = 0;
                for (int i = 0; i < g[0]; i++) {
                    elsewhere += l.draw(2);
                }
                return elsewhere == 0;
            }));
            Checks.blow(x, "inland 1; calm 60;");
            x.days(29);
            due("P10 it rose by " + g[0], g[0], x.cell(0, 0));
            due("P10 no SEASON yet", 50, x.cell(0, 1));
            x.days(1);
            due("P10 GRASS where it rose by " + g[0], 50 + g[1], x.cell(0, 1));
        }
    }

    /** 'below -2: 20 less, below 0: 5 less'. */
    private static void seasonByTheFall() {
        int[][] grown = {{1, -5}, {2, -5}, {3, -20}, {4, -20}, {9, -20}};
        for (int[] g : grown) {
            DuneBench x = new DuneBench(4, 2);
            x.rules(1, 0, 0, 9, 0);
            x.lay(0, 0, 50);
            x.heap(0, 9);
            x.storm(g[0]);
            due("P10 it fell by " + g[0], 9 - g[0], x.cell(0, 0));
            x.days(30);
            due("P10 GRASS where it fell by " + g[0], 50 + g[1], x.cell(0, 1));
        }
    }

    /** 'and its WALKERS less': from none to 20, of their own CELL. */
    private static void seasonWalkers() {
        for (int walkers : new int[] {0, 1, 19, 20}) {
            DuneBench x = new DuneBench(4, 2);
            x.lay(2, 0, 50);
            x.lay(2, 2, walkers);
            x.lay(3, 0, 50);
            x.days(30);
            due("P10 GRASS of " + walkers + " WALKERS", 51 - walkers, x.cell(2, 1));
            due("P10 GRASS beside them", 51, x.cell(3, 1));
            due("P10 the WALKERS stay", walkers, x.cell(2, 3));
        }
    }

    /** '0 .. 100': what GRASS can be behind a SEASON. */
    private static void seasonWithinNoughtAndHundred() {
        int[][] still = {{98, 0, 99}, {99, 0, 100}, {100, 0, 100}, {100, 1, 100}, {100, 2, 99}, {19, 20, 0}, {18, 20, 0},
            {20, 20, 1}, {1, 20, 0}, {1, 1, 1}, {1, 2, 0}, {1, 3, 0}};
        for (int[] s : still) {
            DuneBench x = new DuneBench(4, 2);
            x.lay(2, 0, s[0]);
            x.lay(2, 2, s[1]);
            x.days(30);
            due("P10 GRASS " + s[0] + " of " + s[1] + " WALKERS", s[2], x.cell(2, 1));
        }
        int[][] fallen = {{19, 0, 0}, {20, 0, 0}, {21, 0, 1}, {40, 20, 0}, {41, 20, 1}, {39, 20, 0}};
        for (int[] f : fallen) {
            DuneBench x = new DuneBench(4, 2);
            x.rules(1, 0, 0, 9, 0);
            x.heap(0, 9);
            x.storm(9);
            x.lay(0, 0, f[0]);
            x.lay(0, 2, f[1]);
            x.days(30);
            due("P10 GRASS " + f[0] + " of " + f[1] + " WALKERS where the HEAP fell", f[2], x.cell(0, 1));
        }
        int[][] risen = {{93, 99}, {94, 100}, {95, 100}, {100, 100}};
        for (int[] r : risen) {
            DuneBench x = new DuneBench(4, 2);
            x.heap(1, 3);
            x.lay(2, 0, r[0]);
            x.days(30);
            due("P10 GRASS " + r[0] + " where a grain came", r[1], x.cell(2, 1));
        }
    }

    /** 'of each CELL with GRASS': none comes by itself, nor behind it is gone. */
    private static void seasonWithoutGrass() {
        DuneBench x = new DuneBench(4, 2);
        x.heap(1, 3);
        x.days(30);
        due("P10 no GRASS where a grain came", 0, x.cell(2, 1));
        x.lay(3, 0, 1);
        x.lay(3, 2, 20);
        x.days(30);
        due("P10 GRASS that is gone", 0, x.cell(3, 1));
        x.lay(3, 2, 0);
        x.days(60);
        due("P10 doesn't come again", 0, x.cell(3, 1));
    }

    /** 'since the last SEASON (or the beginning)': of all CELLS, with GRASS then or not. */
    private static void seasonSinceTheLast() {
        DuneBench x = new DuneBench(4, 2);
        x.lay(2, 0, 50);
        x.heap(1, 3);
        x.days(30);
        due("P10 since the beginning", 56, x.cell(2, 1));
        x.days(30);
        due("P10 since the last SEASON", 57, x.cell(2, 1));
        x = new DuneBench(4, 2);
        x.heap(1, 3);
        x.days(30);
        x.lay(2, 0, 50);
        x.days(30);
        due("P10 GRASS that was laid behind it", 51, x.cell(2, 1));
        x = new DuneBench(4, 2);
        x.heap(1, 3);
        x.days(29);
        x.lay(2, 0, 50);
        x.days(1);
        due("P10 GRASS that was laid ahead of it", 56, x.cell(2, 1));
    }

    /** 'NONE ... beyond 3000': DAY 3000 itself goes by with all there is to it. */
    private static void theLastDay() {
        DuneBench x = new DuneBench(4, 2);
        x.lay(2, 0, 100);
        x.lay(2, 2, 2);
        for (int i = 0; i < 49; i++) {
            x.days(60);
        }
        x.days(59);
        due("P10 99 SEASONS", 1, x.cell(2, 1));
        x.heap(5, 1);
        x.lay(5, 3, 1);
        due("P10 two days from 2999", NONE, x.days(2));
        due("P10 not REACHED by them", NONE, x.cell(5, 5));
        due("P10 one day from 2999", 3000, x.days(1));
        due("P10 the 100th SEASON", 0, x.cell(2, 1));
        due("P10 REACHED on it", 3000, x.cell(5, 5));
        due("P10 one more", NONE, x.days(1));
        due("P20 the DAY", 3000, x.about(0));
    }
}
