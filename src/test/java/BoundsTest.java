/**
 * What each call takes and what it refuses: of every argument the last value that is taken and the first that
 * isn't, on either side. A refused call answers false or NONE and changes nothing (see Twins).
 */
public final class BoundsTest {
    private static final int NONE = -1;
    private static final int REFUSED = -1;

    /** A call with one of its arguments open; false counts as REFUSED, true as 1. */
    private interface Call {
        int on(DuneBench x, int v);
    }

    public static void main(String[] args) {
        Checks.mustEnd();
        sizes();
        newObject();
        heap();
        heapBeyond999();
        layCellAndWhat();
        layGrass();
        layFence();
        layWalkers();
        layLimit();
        rulesAtFirst();
        rules();
        seed();
        feedTo200();
        end();
        windsWithFault();
        faultWhat();
        days();
        daysTo3000();
        storm();
        cell();
        work();
        fifthWork();
        dropEmptyAndFull();
        bestMoneyAndDays();
        bestTo3000();
        flight();
        twentyFirstFlight();
        fits();
        fitsTo3000();
        about();
        call512();
        Checks.close("BoundsTest");
    }

    private static void due(String what, long want, long got) {
        Checks.due(what, want, got);
    }

    private static int answer(boolean taken) {
        return taken ? 1 : REFUSED;
    }

    private static void refused(String what, int v, Call call) {
        String name = what + " " + v;
        Twins.stayAlike(name, Twins::rich, x -> due(name + " is refused", REFUSED, call.on(x, v)));
    }

    /** Beyond least .. most on either side the call is refused; what the taken ones do, a test's own lines tell. */
    private static void refusedBeyond(String what, int least, int most, Call call) {
        refused(what, least - 1, call);
        refused(what, most + 1, call);
        refused(what, Integer.MIN_VALUE, call);
        refused(what, Integer.MAX_VALUE, call);
    }

    /** P1: 'WIDE 4 to 16, HIGH 2 to 10; others: the nearest of these'. */
    private static void sizes() {
        int[][] wides = {{4, 4}, {3, 4}, {5, 5}, {15, 15}, {16, 16}, {17, 16}, {0, 4}, {-1, 4},
            {Integer.MIN_VALUE, 4}, {Integer.MAX_VALUE, 16}};
        int[][] highs = {{2, 2}, {1, 2}, {3, 3}, {9, 9}, {10, 10}, {11, 10}, {0, 2}, {-1, 2},
            {Integer.MIN_VALUE, 2}, {Integer.MAX_VALUE, 10}};
        for (int[] w : wides) {
            for (int[] h : highs) {
                String what = "P1 new DuneBench(" + w[0] + ", " + h[0] + ")";
                DuneBench x = new DuneBench(w[0], h[0]);
                due(what + " WIDE", w[1], x.about(1));
                due(what + " HIGH", h[1], x.about(2));
                due(what + " its last CELL is there", 1, answer(x.heap(w[1] * h[1] - 1, 1)));
                due(what + " one more isn't", REFUSED, answer(x.heap(w[1] * h[1], 1)));
            }
        }
    }

    /** P1: 'all HEAPS 0; no WINDS; DAY 0; THE MARK is this': nothing anywhere, from the first CELL to the last. */
    private static void newObject() {
        int[][] sizes = {{4, 2}, {16, 2}, {4, 10}};
        int[] ofCell = {0, 0, 0, 0, 0, NONE, 0, 0, 0, 0};
        for (int[] s : sizes) {
            DuneBench x = new DuneBench(s[0], s[1]);
            for (int c = 0; c < s[0] * s[1]; c++) {
                for (int what = 0; what < 10; what++) {
                    due("P1 cell(" + c + ", " + what + ") of " + s[0] + " by " + s[1], ofCell[what], x.cell(c, what));
                }
            }
            int[] about = {0, s[0], s[1], 0, 0, 0, 0, 0, 4, 0, 0, 0, 0};
            for (int what = 0; what < about.length; what++) {
                due("P1 about(" + what + ") of " + s[0] + " by " + s[1], about[what], x.about(what));
            }
            due("P1 no winds() yet", NONE, x.fault(0));
        }
    }

    /** P2: 'A HEAP becomes v (0 .. 999) ... False for others'. */
    private static void heap() {
        refusedBeyond("P2 heap: v", 0, 999, (x, v) -> answer(x.heap(2, v)));
        refusedBeyond("P2 heap: cell", 0, 7, (x, v) -> answer(x.heap(v, 5)));
        DuneBench x = new DuneBench(4, 2);
        due("P2 heap(0, 1) of the first CELL", 1, answer(x.heap(0, 1)));
        due("P2 it is there", 1, x.cell(0, 0));
        due("P2 heap(7, 1) of the last CELL", 1, answer(x.heap(7, 1)));
        due("P2 it is there", 1, x.cell(7, 0));
        due("P2 heap(7, 0)", 1, answer(x.heap(7, 0)));
        due("P2 no HEAP there", 0, x.cell(7, 0));
        due("P2 heap(7, 999)", 1, answer(x.heap(7, 999)));
        due("P2 all of it is on the GRID", 1000, x.about(3));
    }

    /** P2: 'HEAP (0 .. 999 at first; grains)': it may become more later, by SUPPLY here. */
    private static void heapBeyond999() {
        DuneBench x = new DuneBench(4, 2);
        x.rules(1, 0, 0, 9, 20);
        // A HEAP of 999 stands once those around it carry it.
        for (int call = 0; call < 48; call++) {
            x.heap(call % 8, 999);
        }
        for (int c = 0; c < 8; c++) {
            x.lay(c, 3, 999);
            due("P2 the HEAP of " + c, 999, x.cell(c, 0));
        }
        Checks.blow(x, "inland 1;");
        x.days(30);
        due("P2 grains of 30 DAYS come to HEAPS of 999", 8 * 999 + 600, x.about(3));
        due("P2 they are above 999 then", 1, answer(x.cell(0, 0) > 999 && x.cell(7, 0) > 999));
        due("P2 heap(0, 1000) is refused yet", REFUSED, answer(x.heap(0, 1000)));
    }

    /** P3: 'False for others': a CELL that isn't there, or a what beyond 0 .. 3. */
    private static void layCellAndWhat() {
        for (int what = 0; what < 4; what++) {
            int w = what;
            refusedBeyond("P3 lay what " + w + ": cell", 0, 7, (x, v) -> answer(x.lay(v, w, 1)));
        }
        refusedBeyond("P3 lay: what", 0, 3, (x, v) -> answer(x.lay(1, v, 1)));
        DuneBench x = new DuneBench(4, 2);
        for (int what = 0; what < 4; what++) {
            due("P3 lay of the first CELL, what " + what, 1, answer(x.lay(0, what, 2 + what)));
            due("P3 lay of the last CELL, what " + what, 1, answer(x.lay(7, what, 12 + what)));
        }
        for (int what = 0; what < 4; what++) {
            due("P3 the first CELL has it, what " + what, 2 + what, x.cell(0, what + 1));
            due("P3 the last CELL has it, what " + what, 12 + what, x.cell(7, what + 1));
            due("P3 the next has none, what " + what, 0, x.cell(1, what + 1));
        }
    }

    private static void laid(String name, int what, int most) {
        refusedBeyond("P3 " + name, 0, most, (x, v) -> answer(x.lay(5, what, v)));
        DuneBench x = new DuneBench(4, 2);
        for (int v : new int[] {most, 0, 1, most - 1, most}) {
            due("P3 " + name + " " + v + " is taken", 1, answer(x.lay(5, what, v)));
            due("P3 " + name + " is " + v, v, x.cell(5, what + 1));
        }
    }

    /** P3: 'GRASS (0 .. 100)'. */
    private static void layGrass() {
        laid("GRASS", 0, 100);
    }

    /** P3: 'a FENCE (0: none, to 99 high)'. */
    private static void layFence() {
        laid("FENCE", 1, 99);
    }

    /** P3: 'WALKERS (0 .. 20)'. */
    private static void layWalkers() {
        laid("WALKERS", 2, 20);
    }

    /** P3: 'a HOUSE with a LIMIT (1 .. 999)', 'LIMIT (3; 0: none; it wasn't REACHED then)'. */
    private static void layLimit() {
        laid("LIMIT", 3, 999);
        DuneBench x = new DuneBench(4, 2);
        x.heap(5, 1);
        x.lay(5, 3, 1);
        x.days(1);
        due("P3 the least LIMIT is REACHED by one grain", 1, x.cell(5, 5));
        x.lay(5, 3, 1);
        due("P3 the same LIMIT laid anew: it wasn't REACHED", NONE, x.cell(5, 5));
        x.days(1);
        due("P3 and is REACHED anew", 2, x.cell(5, 5));
        due("P3 a refused LIMIT", REFUSED, answer(x.lay(5, 3, 1000)));
        due("P3 leaves it REACHED", 2, x.cell(5, 5));
        due("P3 LIMIT 0", 1, answer(x.lay(5, 3, 0)));
        due("P3 it wasn't REACHED then", NONE, x.cell(5, 5));
        x.days(1);
        due("P3 without a HOUSE nothing is REACHED", NONE, x.cell(5, 5));
    }

    /** P4: 'at first 2, 60, 40, 2, 2', and so still behind refused ones. */
    private static void rulesAtFirst() {
        DuneBench x = new DuneBench(4, 2);
        due("P4 refused", REFUSED, answer(x.rules(6, 61, 41, 3, 3)));
        due("P4 refused", REFUSED, answer(x.rules(3, 61, 41, 3, 21)));
        int[] first = {2, 60, 40, 2, 2};
        for (int i = 0; i < 5; i++) {
            due("P4 rule " + i + " at first", first[i], x.about(20 + i));
        }
    }

    /** P4: HOP 1 .. 5, LAY 0 .. 100, BARE 0 .. 100, SLOPE 1 .. 9, SUPPLY 0 .. 20; 'False, changing nothing, for others'. */
    private static void rules() {
        refusedBeyond("P4 HOP", 1, 5, (x, v) -> answer(x.rules(v, 10, 20, 1, 3)));
        refusedBeyond("P4 LAY", 0, 100, (x, v) -> answer(x.rules(3, v, 20, 1, 3)));
        refusedBeyond("P4 BARE", 0, 100, (x, v) -> answer(x.rules(3, 10, v, 1, 3)));
        refusedBeyond("P4 SLOPE", 1, 9, (x, v) -> answer(x.rules(3, 10, 20, v, 3)));
        refusedBeyond("P4 SUPPLY", 0, 20, (x, v) -> answer(x.rules(3, 10, 20, 1, v)));
        int[] least = {1, 0, 0, 1, 0};
        int[] most = {5, 100, 100, 9, 20};
        for (int i = 0; i < 5; i++) {
            for (int v : new int[] {least[i], most[i]}) {
                DuneBench x = new DuneBench(4, 2);
                int[] r = {2, 60, 40, 2, 2};
                r[i] = v;
                due("P4 rule " + i + " " + v + " is taken", 1, answer(x.rules(r[0], r[1], r[2], r[3], r[4])));
                for (int j = 0; j < 5; j++) {
                    due("P4 rule " + i + " " + v + ", rule " + j, r[j], x.about(20 + j));
                }
            }
        }
    }

    /** P5: any 32 bits are a SEED; DRAWS wrap round, and are never below 0. */
    private static void seed() {
        for (int s : new int[] {0, -1, 1, Integer.MIN_VALUE, Integer.MAX_VALUE, 0x7fff0000, 0x80000000 + 12345}) {
            DuneBench x = new DuneBench(4, 10);
            x.rules(1, 0, 0, 9, 20);
            for (int c = 0; c < 40; c++) {
                x.lay(c, 3, 999);
            }
            x.seed(s);
            Checks.blow(x, "inland 1;");
            x.days(1);
            Lots lots = new Lots(s);
            int[] came = new int[10];
            for (int i = 0; i < 20; i++) {
                came[lots.draw(10)]++;
            }
            for (int y = 0; y < 10; y++) {
                due("P5 seed(" + s + "): grains at y " + y, came[y], x.cell(4 * y, 0));
            }
        }
    }

    /** P6: 'NONE, and none come, if there would be more than 200'. */
    private static void feedTo200() {
        Twins.stayAlike("P6 feed on 200 bytes", Twins::full,
                x -> due("P6 feed on 200 bytes", NONE, x.feed(0x646f776e, 0x20333b20, 0, 0, 0)));
        DuneBench x = new DuneBench(4, 2);
        for (int have = 180; have <= 200; have++) {
            x.end(0);
            for (int i = 0; i < 10; i++) {
                due("P6 feed number " + i, 20 * i + 20, x.feed(0, 0, 0, 0, 0));
            }
            x.end(have);
            due("P6 feed on " + have + " bytes", have == 180 ? 200 : NONE, x.feed(1, 2, 3, 4, 5));
            due("P6 bytes then", have == 180 ? 200 : have, x.about(9));
        }
    }

    /** P7: 'NONE, and nothing is done, if it has not so many, or n is below 0'. */
    private static void end() {
        refusedBeyond("P7 end", 0, 25, (x, v) -> x.end(v));
        DuneBench x = new DuneBench(4, 2);
        due("P7 end(0) of an empty tape", 0, x.end(0));
        due("P7 end(1) of an empty tape", NONE, x.end(1));
        x.feed(0, 0, 0, 0, 0);
        due("P7 end(20) of 20", 20, x.end(20));
        due("P7 end(21) of 20", NONE, x.end(21));
        due("P7 end(19) of 20", 19, x.end(19));
        due("P7 end(20) of 19", NONE, x.end(20));
        due("P7 19 stay", 19, x.about(9));
        due("P7 end(0) of 19", 0, x.end(0));
        due("P7 none stay", 0, x.about(9));
        due("P7 end(200) of 200", 200, Twins.full().end(200));
        due("P7 end(201) of 200", NONE, Twins.full().end(201));
    }

    /** P8: 'NONE: it has a FAULT, the former ones stay': with the place in their round, and the tape is empty. */
    private static void windsWithFault() {
        DuneBench x = Twins.rich();
        DuneBench other = Twins.rich();
        due("P8 winds() of a tape with a FAULT", NONE, x.winds());
        due("P8 the tape is empty then", 0, x.about(9));
        due("P8 the CLAUSES stay", 5, x.about(7));
        for (int day = 0; day < 9; day++) {
            due("P8 the wind stays, " + day + " days on", other.about(8), x.about(8));
            x.days(1);
            other.days(1);
            for (int c = 0; c < 8; c++) {
                due("P8 the heap of " + c + " stays, " + day + " days on", other.cell(c, 0), x.cell(c, 0));
            }
        }
        due("P8 winds() of the empty tape", 0, x.winds());
        due("P8 no CLAUSES then", 0, x.about(7));
        due("P8 all is calm then", 4, x.about(8));
    }

    /** P9: 'NONE for others, and ahead of any'. */
    private static void faultWhat() {
        refusedBeyond("P9 fault", 0, 1, (x, v) -> x.fault(v));
        DuneBench x = new DuneBench(4, 2);
        due("P9 fault(0) ahead of any winds()", NONE, x.fault(0));
        due("P9 fault(1) ahead of any winds()", NONE, x.fault(1));
        Checks.write(x, "up 0;");
        due("P9 a tape is no winds() yet", NONE, x.fault(0));
        x.winds();
        due("P9 fault(0)", 2, x.fault(0));
        due("P9 fault(1)", 3, x.fault(1));
        x.winds();
        due("P9 fault(0) without", 0, x.fault(0));
        due("P9 fault(1) without", NONE, x.fault(1));
    }

    /** P10: 'n DAYS go by (1 .. 60): the DAY. NONE for others'. */
    private static void days() {
        refusedBeyond("P10 days", 1, 60, (x, v) -> x.days(v));
        refused("P10 days", -60, (x, v) -> x.days(v));
        DuneBench x = new DuneBench(4, 2);
        due("P10 days(1)", 1, x.days(1));
        due("P10 days(60)", 61, x.days(60));
        due("P10 days(59)", 120, x.days(59));
        due("P10 the DAY", 120, x.about(0));
    }

    /** P10: 'or beyond 3000'. */
    private static void daysTo3000() {
        Twins.stayAlike("P10 days(60) on DAY 2941", () -> Twins.onDay(2941), x -> due("P10 2941 + 60", NONE, x.days(60)));
        Twins.stayAlike("P10 days(2) on DAY 2999", () -> Twins.onDay(2999), x -> due("P10 2999 + 2", NONE, x.days(2)));
        Twins.stayAlike("P10 days(1) on DAY 3000", () -> Twins.onDay(3000), x -> due("P10 3000 + 1", NONE, x.days(1)));
        due("P10 days(60) on DAY 2940", 3000, Twins.onDay(2940).days(60));
        due("P10 days(59) on DAY 2941", 3000, Twins.onDay(2941).days(59));
        due("P10 days(1) on DAY 2999", 3000, Twins.onDay(2999).days(1));
    }

    /** P11: 'A STORM of k grains (1 .. 999)'; 'NONE for others'. */
    private static void storm() {
        refusedBeyond("P11 storm", 1, 999, (x, v) -> x.storm(v));
        DuneBench x = new DuneBench(4, 2);
        x.heap(5, 2);
        due("P11 storm(1)", 1, x.storm(1));
        due("P11 one stays", 1, x.cell(5, 0));
        due("P11 storm(999)", 1, x.storm(999));
        due("P11 none stay", 0, x.about(3));
        due("P11 a storm without sand", 0, x.storm(999));
    }

    /** P12: what 0 .. 9 of a CELL; 'NONE for others'. */
    private static void cell() {
        for (int what = 0; what < 10; what++) {
            int w = what;
            refusedBeyond("P12 what " + w + ": cell", 0, 7, (x, v) -> x.cell(v, w));
        }
        refusedBeyond("P12 what", 0, 9, (x, v) -> x.cell(2, v));
        DuneBench x = new DuneBench(16, 10);
        x.heap(159, 2);
        due("P12 the last CELL of the largest GRID", 2, x.cell(159, 0));
        due("P12 the last CELL, what 9", 0, x.cell(159, 9));
        due("P12 CELL 160 of 160", NONE, x.cell(160, 0));
    }

    /** P13: 'kind 0 FENCE, 1 GRASS, 2 dug; v 1 .. 99', 'a COST (0 .. 999)'; 'NONE for others'. */
    private static void work() {
        refusedBeyond("P13 kind", 0, 2, (x, v) -> x.work(v, 6, 5, 50));
        refusedBeyond("P13 cell", 0, 7, (x, v) -> x.work(2, v, 5, 50));
        for (int kind = 0; kind < 3; kind++) {
            int k = kind;
            refusedBeyond("P13 v of kind " + k, 1, 99, (x, v) -> x.work(k, 6, v, 50));
        }
        refusedBeyond("P13 cost", 0, 999, (x, v) -> x.work(2, 6, 5, v));
        int[][] taken = {{0, 0, 1, 0}, {1, 7, 99, 999}, {2, 0, 1, 999}, {2, 7, 99, 0}, {0, 7, 99, 0}, {1, 0, 1, 0}};
        for (int[] w : taken) {
            DuneBench x = new DuneBench(4, 2);
            due("P13 a work of the last values taken", 0, x.work(w[0], w[1], w[2], w[3]));
            due("P13 its number is one more", 1, x.work(w[0], w[1], w[2], w[3]));
            due("P13 works", 2, x.about(10));
        }
    }

    /** P13: 'WORKS 0 .. 3', 'or if there are 4'. */
    private static void fifthWork() {
        Twins.stayAlike("P13 a fifth work", Twins::full, x -> due("P13 a fifth work", NONE, x.work(2, 6, 99, 0)));
        DuneBench x = new DuneBench(4, 2);
        for (int i = 0; i < 4; i++) {
            due("P13 work " + i, i, x.work(0, 0, 1, 0));
        }
        due("P13 a fifth", NONE, x.work(0, 0, 1, 0));
        due("P13 there are 4", 4, x.about(10));
    }

    /** P14: 'No WORKS any more: how many there were', of none and of four. */
    private static void dropEmptyAndFull() {
        DuneBench x = new DuneBench(4, 2);
        due("P14 drop() of none", 0, x.drop());
        for (int i = 0; i < 4; i++) {
            x.work(0, 0, 1, 0);
        }
        due("P14 drop() of four", 4, x.drop());
        due("P14 there are none", 0, x.about(10));
        due("P14 drop() again", 0, x.drop());
        for (int i = 0; i < 4; i++) {
            due("P14 numbers are from 0 again", i, x.work(0, 0, 1, 0));
        }
    }

    /** P15, P16: 'money (0 .. 9999) and n DAYS', 'n DAYS (1 .. 60)'; 'NONE for others'; 'Nothing is changed by asking'. */
    private static void bestMoneyAndDays() {
        refusedBeyond("P15 money", 0, 9999, (x, v) -> x.best(v, 3));
        refusedBeyond("P15 n", 1, 60, (x, v) -> x.best(50, v));
        refusedBeyond("P16 money", 0, 9999, (x, v) -> x.bestSet(v, 3));
        refusedBeyond("P16 n", 1, 60, (x, v) -> x.bestSet(50, v));
        int[][] taken = {{0, 1}, {9999, 1}, {0, 60}, {9999, 60}};
        for (int[] t : taken) {
            String asked = t[0] + ", " + t[1];
            Twins.stayAlike("P15 best(" + asked + ")", Twins::full,
                    x -> due("P15 best(" + asked + ") answers", 1, answer(x.best(t[0], t[1]) >= 0)));
            Twins.stayAlike("P16 bestSet(" + asked + ")", Twins::full,
                    x -> due("P16 bestSet(" + asked + ") answers", 1, answer(x.bestSet(t[0], t[1]) >= 0)));
        }
    }

    /** P15, P16: 'or beyond DAY 3000'. */
    private static void bestTo3000() {
        int[][] asked = {{2940, 60, 1}, {2941, 59, 1}, {2941, 60, 0}, {2999, 1, 1}, {2999, 2, 0}, {3000, 1, 0}};
        for (int[] a : asked) {
            String what = "best(0, " + a[1] + ") on DAY " + a[0];
            Twins.stayAlike("P15 " + what, () -> Twins.onDay(a[0]),
                    x -> due("P15 " + what + " answers", answer(a[2] == 1), answer(x.best(0, a[1]) != NONE)));
            Twins.stayAlike("P16 " + what, () -> Twins.onDay(a[0]),
                    x -> due("P16 " + what + " answers", answer(a[2] == 1), answer(x.bestSet(0, a[1]) != NONE)));
        }
    }

    /** P18: 'seen 0 .. 9999', 'a MISS (0 .. 9)'; 'NONE for others'. */
    private static void flight() {
        refusedBeyond("P18 cell", 0, 7, (x, v) -> x.flight(v, 3, 3));
        refusedBeyond("P18 seen", 0, 9999, (x, v) -> x.flight(3, v, 3));
        refusedBeyond("P18 miss", 0, 9, (x, v) -> x.flight(3, 3, v));
        DuneBench x = new DuneBench(4, 2);
        due("P18 the least of each", 1, x.flight(0, 0, 0));
        due("P18 the most of each", 2, x.flight(7, 9999, 9));
        due("P18 flights", 2, x.about(11));
    }

    /** P18: 'FLIGHTS (20 at most)', 'or if there are 20'. */
    private static void twentyFirstFlight() {
        Twins.stayAlike("P18 a 21st flight", Twins::full, x -> due("P18 a 21st flight", NONE, x.flight(0, 9999, 0)));
        DuneBench x = new DuneBench(4, 2);
        for (int i = 1; i <= 20; i++) {
            due("P18 flight " + i, i, x.flight(0, 0, 0));
        }
        due("P18 a 21st", NONE, x.flight(0, 0, 0));
        due("P18 there are 20", 20, x.about(11));
        x.mark();
        due("P17 no FLIGHTS any more, of 20", 0, x.about(11));
        due("P18 the first again", 1, x.flight(0, 0, 0));
    }

    /** P19: 'n DAYS behind THE MARK (1 .. 60; bits 1 .. 5). NONE for others'; nothing is changed. */
    private static void fits() {
        refusedBeyond("P19 n", 1, 60, (x, v) -> x.fits(v));
        for (int n : new int[] {1, 60}) {
            Twins.stayAlike("P19 fits(" + n + ")", Twins::full, x -> {
                int bits = x.fits(n);
                due("P19 fits(" + n + ") has bits 1 .. 5 alone", 0, bits & ~62);
            });
        }
    }

    /** P19: 'or beyond DAY 3000', which THE MARK's DAY and n make, whatever the DAY is now. */
    private static void fitsTo3000() {
        int[][] asked = {{2940, 60, 1}, {2941, 59, 1}, {2941, 60, 0}, {2999, 1, 1}, {2999, 2, 0}, {3000, 1, 0}};
        for (int[] a : asked) {
            String what = "P19 fits(" + a[1] + ") of a MARK on DAY " + a[0];
            DuneBench x = Twins.onDay(a[0]);
            x.mark();
            due(what, a[2] == 1 ? 62 : NONE, x.fits(a[1]));
        }
        DuneBench x = new DuneBench(4, 2);
        for (int i = 0; i < 50; i++) {
            x.days(60);
        }
        due("P19 fits(60) on DAY 3000 of THE MARK of DAY 0", 62, x.fits(60));
        Twins.stayAlike("P19 fits(2) of THE MARK of DAY 2999", () -> {
            DuneBench made = Twins.onDay(2999);
            made.mark();
            return made;
        }, y -> due("P19 2999 + 2", NONE, y.fits(2)));
    }

    /** P20: 0 .. 12 and 20 .. 24; 'NONE for others'. */
    private static void about() {
        for (int bad : new int[] {-1, 13, 14, 19, 25, Integer.MIN_VALUE, Integer.MAX_VALUE}) {
            refused("P20 about", bad, (x, v) -> x.about(v));
        }
        DuneBench x = Twins.full();
        int[][] dues = {{0, 4}, {1, 4}, {2, 2}, {6, 4}, {7, 5}, {8, 1}, {9, 200}, {10, 4}, {11, 20}, {12, 2}};
        for (int[] d : dues) {
            due("P20 about(" + d[0] + ")", d[1], x.about(d[0]));
        }
        int sum = 0;
        for (int c = 0; c < 8; c++) {
            sum += x.cell(c, 0);
        }
        due("P20 about(3)", sum, x.about(3));
        due("P20 about(3 .. 5) are all grains that came", 20 + x.about(6), x.about(3) + x.about(4) + x.about(5));
        int[] rules = {1, 40, 60, 3, 2};
        for (int i = 0; i < 5; i++) {
            due("P20 about(" + (20 + i) + ")", rules[i], x.about(20 + i));
        }
    }

    /** 'An object is used for at most 512 calls after it has been made': the 512th is answered yet. */
    private static void call512() {
        DuneBench x = new DuneBench(4, 2);
        for (int call = 1; call <= 511; call++) {
            due("call " + call, 1, answer(x.heap(call % 8, call % 2)));
        }
        due("the 512th call", 4, x.about(3));
    }
}
