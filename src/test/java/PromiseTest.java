/** Each promise by answers worked out by hand: ordinary inputs, the edges that the document names, wrong inputs. */
public final class PromiseTest {
    private static final int NONE = -1;
    private static final int[] WILD = {Integer.MIN_VALUE, Integer.MAX_VALUE, -1};
    /** A seed of the tests' own; draws are counted along with it. */
    private static int lots;

    public static void main(String[] args) {
        Checks.mustEnd();
        newObject();
        heap();
        slides();
        lay();
        rules();
        seed();
        feedAndEnd();
        winds();
        windsGoRound();
        faults();
        days();
        supply();
        lifting();
        laying();
        houses();
        seasons();
        storm();
        shadows();
        works();
        best();
        mark();
        flights();
        fits();
        about();
        Checks.close("PromiseTest");
    }

    private static void due(String what, long want, long got) {
        Checks.due(what, want, got);
    }

    private static void due(String what, boolean want, boolean got) {
        Checks.due(what, want, got);
    }

    private static int draw(int below) {
        lots = lots * 1103515245 + 12345;
        return (lots >>> 16) % below;
    }

    /** A grid where nothing is lifted: grass of 100 everywhere. */
    private static DuneBench grown(int wide, int high) {
        DuneBench x = new DuneBench(wide, high);
        for (int c = 0; c < wide * high; c++) {
            x.lay(c, 0, 100);
        }
        return x;
    }

    private static void newObject() {
        int[][] sizes = {{4, 2, 4, 2}, {16, 10, 16, 10}, {3, 1, 4, 2}, {17, 11, 16, 10}, {7, 5, 7, 5},
            {Integer.MIN_VALUE, Integer.MAX_VALUE, 4, 10}, {Integer.MAX_VALUE, Integer.MIN_VALUE, 16, 2}};
        for (int[] s : sizes) {
            DuneBench x = new DuneBench(s[0], s[1]);
            due("P1 wide", s[2], x.about(1));
            due("P1 high", s[3], x.about(2));
            due("P1 last cell", 0, x.cell(s[2] * s[3] - 1, 0));
            due("P1 beyond the last cell", NONE, x.cell(s[2] * s[3], 0));
        }
        DuneBench x = new DuneBench(5, 3);
        int[] firsts = {0, 5, 3, 0, 0, 0, 0, 0, 4, 0, 0, 0, 0};
        for (int what = 0; what < firsts.length; what++) {
            due("P1 about(" + what + ")", firsts[what], x.about(what));
        }
        int[] cell = {0, 0, 0, 0, 0, NONE, 0, 0, 0, 0};
        for (int what = 0; what < cell.length; what++) {
            due("P1 cell(7, " + what + ")", cell[what], x.cell(7, what));
        }
        x.heap(0, 2);
        x.flight(0, 0, 0);
        due("P1 the mark is the new object", 62, x.fits(1));
    }

    private static void heap() {
        DuneBench x = new DuneBench(4, 2);
        due("P2 heap(3, 2)", true, x.heap(3, 2));
        due("P2 heap", 2, x.cell(3, 0));
        due("P2 heap(3, 0)", true, x.heap(3, 0));
        due("P2 heap is 0 again", 0, x.about(3));
        due("P2 heap(7, 999)", true, x.heap(7, 999));
        due("P2 no grain is lost by sliding", 999, x.about(3));
        for (int bad : WILD) {
            due("P2 cell " + bad, false, x.heap(bad, 1));
            due("P2 v " + bad, false, x.heap(0, bad));
        }
        due("P2 cell 8 of 8", false, x.heap(8, 1));
        due("P2 v 1000", false, x.heap(0, 1000));
        due("P2 wrong ones change nothing", 999, x.about(3));
    }

    private static void slides() {
        DuneBench x = new DuneBench(5, 3);
        x.rules(2, 60, 40, 1, 0);
        x.heap(7, 2);
        Checks.heapsAre("slides: first to the right", x, 0, 0, 0, 0, 0, 0, 0, 1, 1, 0, 0, 0, 0, 0, 0);
        x = new DuneBench(5, 3);
        x.rules(2, 60, 40, 1, 0);
        x.heap(7, 3);
        // 3: to the right; 2: to the left, then 1.
        Checks.heapsAre("slides: then to the left", x, 0, 0, 0, 0, 0, 0, 1, 1, 1, 0, 0, 0, 0, 0, 0);
        x = new DuneBench(5, 3);
        x.rules(2, 60, 40, 1, 0);
        x.heap(7, 5);
        Checks.heapsAre("slides: then y more, then y less", x, 0, 0, 1, 0, 0, 0, 1, 1, 1, 0, 0, 0, 1, 0, 0);
        x = new DuneBench(4, 3);
        x.rules(2, 60, 40, 1, 0);
        x.heap(11, 3);
        // No right neighbour: left first, then y one more, which is the first y.
        Checks.heapsAre("slides: over the last y to the first", x, 0, 0, 0, 1, 0, 0, 0, 0, 0, 0, 1, 1);
        x = new DuneBench(4, 2);
        x.heap(0, 2);
        Checks.heapsAre("slides: just SLOPE stands", x, 2, 0, 0, 0, 0, 0, 0, 0);
        x.heap(0, 3);
        Checks.heapsAre("slides: one more does not", x, 2, 1, 0, 0, 0, 0, 0, 0);
        x = new DuneBench(4, 3);
        x.rules(2, 60, 40, 1, 0);
        // Cells 0 and 4 stand at 1 and 2 on purpose; 1 becomes 2: the lowest cell slides first.
        x.heap(1, 1);
        x.heap(0, 1);
        x.heap(5, 1);
        x.heap(9, 1);
        x.heap(2, 1);
        x.heap(1, 2);
        Checks.heapsAre("slides: a heap of 2 among 1", x, 1, 2, 1, 0, 0, 1, 0, 0, 0, 1, 0, 0);
        x.heap(2, 0);
        // Cell 1 stands 2 above cell 2.
        Checks.heapsAre("slides: into a hole", x, 1, 1, 1, 0, 0, 1, 0, 0, 0, 1, 0, 0);
    }

    private static void lay() {
        DuneBench x = new DuneBench(4, 2);
        int[] most = {100, 99, 20, 999};
        for (int what = 0; what < 4; what++) {
            due("P3 most of " + what, true, x.lay(7, what, most[what]));
            due("P3 cell shows " + what, most[what], x.cell(7, what + 1));
            due("P3 too much of " + what, false, x.lay(7, what, most[what] + 1));
            due("P3 below 0 of " + what, false, x.lay(7, what, -1));
            due("P3 wrong ones change nothing", most[what], x.cell(7, what + 1));
            due("P3 none of " + what, true, x.lay(7, what, 0));
            due("P3 cell shows none", 0, x.cell(7, what + 1));
        }
        for (int bad : WILD) {
            due("P3 cell " + bad, false, x.lay(bad, 0, 1));
            due("P3 what " + bad, false, x.lay(0, bad, 1));
            due("P3 v " + bad, false, x.lay(0, 0, bad));
        }
        due("P3 cell 8 of 8", false, x.lay(8, 0, 1));
        due("P3 what 4", false, x.lay(0, 4, 1));
        x.heap(2, 2);
        x.lay(2, 3, 1);
        x.days(1);
        due("P3 reached", 1, x.cell(2, 5));
        due("P3 limit again", true, x.lay(2, 3, 2));
        due("P3 a limit laid anew wasn't reached", NONE, x.cell(2, 5));
        x.days(1);
        due("P3 and is reached anew", 2, x.cell(2, 5));
        x.lay(2, 3, 0);
        due("P3 no house, none reached", NONE, x.cell(2, 5));
    }

    private static void rules() {
        DuneBench x = new DuneBench(4, 2);
        int[] first = {2, 60, 40, 2, 2};
        int[] least = {1, 0, 0, 1, 0};
        int[] most = {5, 100, 100, 9, 20};
        rulesAre("P4 at first", x, first);
        for (int i = 0; i < 5; i++) {
            int[] low = first.clone();
            low[i] = least[i] - 1;
            int[] high = first.clone();
            high[i] = most[i] + 1;
            due("P4 rule " + i + " too low", false, x.rules(low[0], low[1], low[2], low[3], low[4]));
            due("P4 rule " + i + " too high", false, x.rules(high[0], high[1], high[2], high[3], high[4]));
            rulesAre("P4 wrong ones change nothing", x, first);
        }
        due("P4 most", true, x.rules(5, 100, 100, 9, 20));
        rulesAre("P4 most", x, most);
        x.heap(0, 9);
        Checks.heapsAre("P4 slope 9", x, 9, 0);
        due("P4 least", true, x.rules(1, 0, 0, 1, 0));
        rulesAre("P4 least", x, least);
        due("P4 the grid slides by the new slope", true, x.cell(0, 0) < 9);
        due("P4 and keeps its grains", 9, x.about(3));
    }

    private static void rulesAre(String what, DuneBench x, int[] rules) {
        for (int i = 0; i < 5; i++) {
            due(what + ": rule " + i, rules[i], x.about(20 + i));
        }
    }

    /** Grains come to the sea's cells by draws below HIGH, from the seed on. */
    private static void seed() {
        for (int s : new int[] {1, 0, -7, 123456, Integer.MIN_VALUE, Integer.MAX_VALUE}) {
            DuneBench x = grown(4, 10);
            x.rules(1, 50, 50, 9, 5);
            if (s != 1) {
                x.seed(s);
            }
            Checks.blow(x, "inland 1;");
            x.days(1);
            lots = s;
            int[] came = new int[10];
            for (int i = 0; i < 5; i++) {
                came[draw(10)]++;
            }
            for (int y = 0; y < 10; y++) {
                due("P5 seed " + s + ", grains at y " + y, came[y], x.cell(4 * y, 0));
            }
        }
    }

    private static void feedAndEnd() {
        DuneBench x = new DuneBench(4, 2);
        due("P7 end(0) of none", 0, x.end(0));
        due("P7 end(1) of none", NONE, x.end(1));
        for (int i = 1; i <= 10; i++) {
            due("P6 feed", 20 * i, x.feed(0, 0, 0, 0, 0));
        }
        due("P6 feed beyond 200", NONE, x.feed(0, 0, 0, 0, 0));
        due("P6 none came", 200, x.about(9));
        due("P7 end(201)", NONE, x.end(201));
        due("P7 end(200)", 200, x.end(200));
        due("P7 end(181)", 181, x.end(181));
        due("P6 feed from 181", NONE, x.feed(0, 0, 0, 0, 0));
        for (int bad : WILD) {
            due("P7 end(" + bad + ")", NONE, x.end(bad));
        }
        due("P7 nothing was done", 181, x.about(9));
        due("P7 end(180)", 180, x.end(180));
        due("P6 feed from 180", 200, x.feed(0, 0, 0, 0, 0));
        due("P7 end(0)", 0, x.end(0));
        due("P6 bytes in order, the highest first", 20,
                x.feed('u' << 24 | 'p' << 16 | '1' << 8 | ';', 'd' << 24 | 'o' << 16 | 'w' << 8 | 'n',
                        '2' << 24 | ';' << 16 | 'c' << 8 | 'a', 'l' << 24 | 'm' << 16 | '3' << 8 | ';', 0x20202020));
        due("P6 these are winds", 3, x.winds());
        due("P6 the first is up", 2, x.about(8));
        due("P8 the tape is empty then", 0, x.about(9));
        x.feed(0x75703120, -1, -1, -1, -1);
        x.end(3);
        due("P7 the bytes behind are gone", 17 + 6, x.feed(0x3b202020, 0x20202020, 0x20202020, 0x20202020, 0x20202020));
        due("P7 and those that come stand there", 1, x.winds());
    }

    private static void winds() {
        DuneBench x = new DuneBench(4, 2);
        due("P8 none", 0, x.winds());
        due("P8 without any all is calm", 4, x.about(8));
        String[] words = {"inland", "seaward", "up", "down", "calm"};
        for (int w = 0; w < 5; w++) {
            due("P8 " + words[w], 1, Checks.blow(x, words[w] + " 60;"));
            due("P8 next wind", w, x.about(8));
            due("P8 clauses", 1, x.about(7));
        }
        due("P8 no blanks", 2, Checks.blow(x, "up1;down60;"));
        due("P8 many blanks", 2, Checks.blow(x, "   up   1  ;   down  60  ;  "));
        due("P8 zeros ahead", 1, Checks.blow(x, "up 0000000000000000000060;"));
        due("P8 only blanks", 0, Checks.blow(x, "     "));
        due("P8 no winds any more", 4, x.about(8));
        due("P8 twenty", 20, Checks.blow(x, "up1;".repeat(20)));
        due("P8 clauses", 20, x.about(7));
        due("P8 a fault", NONE, Checks.blow(x, "down 0;"));
        due("P8 the tape is empty all the same", 0, x.about(9));
        due("P8 the former ones stay", 20, x.about(7));
        due("P8 the former wind stays", 2, x.about(8));
    }

    private static void windsGoRound() {
        DuneBench x = new DuneBench(4, 2);
        Checks.blow(x, "up 2; calm 1; down 3;");
        int[] round = {2, 2, 4, 3, 3, 3};
        for (int day = 0; day < 14; day++) {
            due("P8 wind of day " + day, round[day % 6], x.about(8));
            x.days(1);
        }
        due("P8 amid a clause", 4, x.about(8));
        due("P8 a fault", NONE, Checks.blow(x, "x"));
        due("P8 does not set them back", 4, x.about(8));
        Checks.blow(x, "up 2; calm 1; down 3;");
        due("P8 anew from their first one", 2, x.about(8));
        x.days(8);
        due("P8 over several days", 4, x.about(8));
    }

    private static void faults() {
        DuneBench x = new DuneBench(4, 2);
        due("P9 ahead of any, fault", NONE, x.fault(0));
        due("P9 ahead of any, place", NONE, x.fault(1));
        faulty(x, "wind 3;", 1, 0);
        faulty(x, "  wind 3;", 1, 2);
        faulty(x, "Up 3;", 1, 0);
        faulty(x, "upp 3;", 1, 0);
        faulty(x, "u 3;", 1, 0);
        faulty(x, "3 up;", 1, 0);
        faulty(x, ";", 1, 0);
        faulty(x, "up;", 1, 2);
        faulty(x, "up up 3;", 1, 3);
        faulty(x, "up 3", 1, 4);
        faulty(x, "up 3  ", 1, 6);
        faulty(x, "up", 1, 2);
        faulty(x, "up 3 4;", 1, 5);
        faulty(x, "up 3 down 4;", 1, 5);
        faulty(x, "up 3;;", 1, 5);
        faulty(x, "up 3;\t", 1, 5);
        faulty(x, "up\0003;", 1, 2);
        faulty(x, "up -3;", 1, 3);
        faulty(x, "up 3\u00ff;", 1, 4);
        faulty(x, "\u00f5p 3;", 1, 0);
        faulty(x, "up 0;", 2, 3);
        faulty(x, "up 61;", 2, 3);
        faulty(x, "up 4294967297;", 2, 3);
        faulty(x, "up " + "9".repeat(190) + ";", 2, 3);
        faulty(x, "up 1;down 99 foo", 2, 10);
        faulty(x, "up 61 foo", 2, 3);
        faulty(x, "up1;".repeat(20) + "up1;", 3, 80);
        faulty(x, "up1;".repeat(20) + " down 99;", 3, 81);
        faulty(x, "up1;".repeat(20) + "foo", 1, 80);
        faulty(x, "up1;".repeat(20) + "7", 1, 80);
        faulty(x, "up1;".repeat(20) + "up", 3, 80);
        due("P9 good winds", 1, Checks.blow(x, "up 3;"));
        due("P9 no fault", 0, x.fault(0));
        due("P9 no place", NONE, x.fault(1));
        due("P9 fault(2)", NONE, x.fault(2));
        for (int bad : WILD) {
            due("P9 fault(" + bad + ")", NONE, x.fault(bad));
        }
        faulty(x, "up", 1, 2);
        Checks.write(x, "up 99");
        due("P9 is of the latest winds(), not of the tape", 1, x.fault(0));
    }

    private static void faulty(DuneBench x, String text, int kind, int place) {
        due("P9 winds() of " + text, NONE, Checks.blow(x, text));
        due("P9 fault of " + text, kind, x.fault(0));
        due("P9 place of " + text, place, x.fault(1));
    }

    private static void days() {
        DuneBench x = new DuneBench(4, 2);
        due("P10 days(1)", 1, x.days(1));
        due("P10 days(60)", 61, x.days(60));
        for (int bad : new int[] {0, 61, -1, Integer.MIN_VALUE, Integer.MAX_VALUE}) {
            due("P10 days(" + bad + ")", NONE, x.days(bad));
        }
        due("P10 none went by", 61, x.about(0));
        for (int i = 0; i < 48; i++) {
            x.days(60);
        }
        due("P10 day", 2941, x.about(0));
        due("P10 beyond 3000", NONE, x.days(60));
        due("P15 beyond 3000", NONE, x.best(0, 60));
        due("P16 beyond 3000", NONE, x.bestSet(0, 60));
        due("P15 to 3000", 0, x.best(0, 59));
        due("P19 is from the mark on", 62, x.fits(60));
        x.mark();
        due("P19 beyond 3000", NONE, x.fits(60));
        due("P19 to 3000", 62, x.fits(59));
        due("P10 to 3000", 3000, x.days(59));
        due("P10 no more", NONE, x.days(1));
        due("P15 no more", NONE, x.best(0, 1));
    }

    private static void supply() {
        DuneBench x = grown(6, 4);
        x.rules(1, 50, 50, 1, 20);
        Checks.blow(x, "inland 3; seaward 1; up 1; down 1; calm 1;");
        x.days(3);
        due("P10 supply of three days", 60, x.about(6));
        due("P10 stays on the grid", 60, x.about(3));
        x.days(4);
        due("P10 no supply by other winds", 60, x.about(6));
        x.days(1);
        due("P10 supply goes on", 80, x.about(6));
    }

    /** One grain alone, laid wherever it comes: each lift is one hop. Counted along by draws. */
    private static void lifting() {
        int[][] ways = {{1, 0}, {-1, 0}, {0, 1}, {0, -1}};
        String[] words = {"inland", "seaward", "up", "down"};
        for (int w = 0; w < 4; w++) {
            for (int hop = 1; hop <= 5; hop++) {
                DuneBench x = new DuneBench(7, 5);
                x.rules(hop, 0, 100, 1, 0);
                x.heap(17, 1);
                x.seed(hop);
                Checks.blow(x, words[w] + " 9;");
                x.days(1);
                lots = hop;
                int at = 17;
                for (int i = 0; i < 35; i++) {
                    if (draw(35) == at) {
                        draw(100);
                        int gx = at % 7 + hop * ways[w][0];
                        at = gx < 0 || gx > 6 ? NONE : Math.floorMod(at / 7 + hop * ways[w][1], 5) * 7 + gx;
                        if (at == NONE) {
                            break;
                        }
                    }
                }
                due("P10 " + words[w] + " hop " + hop + ": on the grid", at == NONE ? 0 : 1, x.about(3));
                due("P10 " + words[w] + " hop " + hop + ": cell " + at, at == NONE ? NONE : 1, x.cell(at, 0));
                due("P10 LOST to the sea", at == NONE && w == 1 ? 1 : 0, x.about(4));
                due("P10 LOST inland", at == NONE && w == 0 ? 1 : 0, x.about(5));
            }
        }
        DuneBench x = grown(5, 3);
        x.heap(7, 2);
        Checks.blow(x, "inland 1; seaward 1; up 1; down 1;");
        x.rules(1, 50, 50, 9, 0);
        x.days(8);
        due("P10 grass of 100 holds", 2, x.cell(7, 0));
        x.lay(7, 0, 0);
        x.lay(7, 3, 99);
        x.days(8);
        due("P10 nothing is lifted from a house", 2, x.cell(7, 0));
        x.lay(7, 3, 0);
        x.rules(1, 0, 0, 9, 0);
        Checks.blow(x, "inland 60;");
        x.days(60);
        due("P10 else it is", 0, x.cell(7, 0));
    }

    private static void laying() {
        // Never laid by lot: it is laid by its 10th hop, which is 10 cells on: 10 % 4 = 2.
        DuneBench x = new DuneBench(4, 4);
        x.rules(1, 0, 0, 9, 0);
        x.heap(1, 1);
        Checks.blow(x, "up 60;");
        lots = 1;
        int at = 1;
        for (int day = 0; day < 20; day++) {
            x.days(1);
            for (int i = 0; i < 16; i++) {
                if (draw(16) == at) {
                    for (int hops = 1; hops < 10; hops++) {
                        draw(100);
                    }
                    at = (at + 8) % 16;
                }
            }
            due("P10 by the 10th hop", 1, x.cell(at, 0));
        }
        // A fence takes grains without a lot until it is full.
        x = new DuneBench(8, 2);
        x.rules(1, 0, 0, 9, 0);
        for (int y = 0; y < 2; y++) {
            x.lay(8 * y + 4, 1, 3);
            x.lay(8 * y + 4, 0, 100);
            x.heap(8 * y + 1, 3);
        }
        Checks.blow(x, "inland 60;");
        x.days(60);
        due("P10 the fence of y 0 is full", 3, x.cell(4, 0));
        due("P10 the fence of y 1 is full", 3, x.cell(12, 0));
        // LAY holds on sand, BARE where there is none.
        x = grown(4, 2);
        x.rules(1, 100, 0, 9, 0);
        for (int c = 0; c < 8; c++) {
            x.heap(c, c % 4 == 0 ? 2 : c % 4 == 1 ? 2 : 0);
        }
        x.lay(0, 0, 0);
        x.lay(4, 0, 0);
        Checks.blow(x, "inland 60;");
        x.days(60);
        due("P10 laid on sand", 8, x.cell(1, 0) + x.cell(5, 0) + x.cell(0, 0) + x.cell(4, 0));
        due("P10 nothing went beyond", 0, x.about(5));
    }

    private static void houses() {
        DuneBench x = new DuneBench(4, 2);
        x.heap(0, 2);
        x.lay(0, 3, 2);
        x.lay(1, 3, 1);
        due("P10 not reached ahead of a day", NONE, x.cell(0, 5));
        x.days(1);
        due("P10 reached by just LIMIT", 1, x.cell(0, 5));
        due("P10 not reached below it", NONE, x.cell(1, 5));
        x.heap(0, 0);
        x.heap(1, 1);
        x.days(2);
        due("P10 the first day stays", 1, x.cell(0, 5));
        due("P10 reached on the first of the days", 2, x.cell(1, 5));
        due("P12 limit", 2, x.cell(0, 4));
    }

    private static void seasons() {
        int[][] rises = {{-3, -20}, {-2, -5}, {-1, -5}, {0, 1}, {1, 6}, {3, 6}, {4, 2}, {6, 2}, {7, -30}, {9, -30}};
        for (int[] rise : rises) {
            due("P10 season, rise " + rise[0], 50 + rise[1], grassAfter(50, 0, rise[0]));
            due("P10 season with walkers, rise " + rise[0], 50 + rise[1] - 7, grassAfter(50, 7, rise[0]));
            due("P10 season at most 100", Math.min(100, 100 + rise[1]), grassAfter(100, 0, rise[0]));
            due("P10 season at least 0", Math.max(0, 3 + rise[1] - 20), grassAfter(3, 20, rise[0]));
            due("P10 no grass comes by itself", 0, grassAfter(0, 0, rise[0]));
        }
        DuneBench x = new DuneBench(4, 2);
        x.lay(3, 0, 98);
        x.lay(3, 2, 4);
        x.days(29);
        due("P10 no season on day 29", 98, x.cell(3, 1));
        x.days(1);
        due("P10 season on day 30", 95, x.cell(3, 1));
        x.days(30);
        due("P10 season on day 60", 92, x.cell(3, 1));
        x.lay(3, 2, 0);
        x.heap(3, 2);
        x.days(30);
        due("P2 the new height counts as that of the last season", 93, x.cell(3, 1));
        x.lay(3, 0, 100);
        x.lay(3, 2, 1);
        x.days(30);
        due("P10 clamped once, walkers counted", 100, x.cell(3, 1));
        x = new DuneBench(4, 2);
        x.lay(1, 0, 50);
        x.heap(0, 3);
        x.days(30);
        due("P10 one grain slid there", 56, x.cell(1, 1));
        x.days(30);
        due("P10 none since the last season", 57, x.cell(1, 1));
    }

    /** Grass of a cell behind a season in which its heap rose, by grains that slid to it from the cell beside. */
    private static int grassAfter(int grass, int walkers, int rise) {
        DuneBench x = new DuneBench(4, 2);
        x.rules(1, 50, 50, 9, 0);
        for (int c = 0; c < 8; c++) {
            x.heap(c, 100);
        }
        x.lay(3, 0, grass);
        x.lay(3, 2, walkers);
        if (rise < 0) {
            // The cell beside falls until just -rise grains slid away: it, and y one more, are made low.
            for (int v = 100; x.cell(3, 0) > 100 + rise; v--) {
                x.heap(2, v);
            }
        }
        for (int v = 100; x.cell(3, 0) < 100 + rise; v++) {
            x.heap(2, v);
        }
        x.days(30);
        return x.cell(3, 1);
    }

    private static void storm() {
        DuneBench x = new DuneBench(4, 2);
        x.rules(1, 50, 50, 9, 0);
        int[] heaps = {2, 3, 4, 1, 0, 0, 6, 1};
        for (int c = 0; c < 8; c++) {
            x.heap(c, heaps[c]);
        }
        due("P11 storm(6)", 12, x.storm(6));
        Checks.heapsAre("P11 from the sea on", x, 0, 0, 3, 1, 0, 0, 0, 1);
        due("P11 LOST to the sea", 12, x.about(4));
        for (int bad : new int[] {0, 1000, -1, Integer.MIN_VALUE, Integer.MAX_VALUE}) {
            due("P11 storm(" + bad + ")", NONE, x.storm(bad));
        }
        due("P11 nothing was taken", 5, x.about(3));
        due("P11 storm(999)", 5, x.storm(999));
        due("P11 storm of an empty grid", 0, x.storm(1));
        due("P11 LOST together", 17, x.about(4));
        due("P11 no day goes by", 0, x.about(0));
        x = new DuneBench(4, 2);
        for (int c = 0; c < 8; c++) {
            x.heap(c, 2);
        }
        for (int c = 1; c < 8; c += 2) {
            x.heap(c, 3);
        }
        // Both seaward cells become 0; then cell 1 (3) gives to cell 0, and 5 to 4.
        due("P11 storm(2)", 4, x.storm(2));
        Checks.heapsAre("P11 settled then", x, 1, 2, 2, 3, 1, 2, 2, 3);
    }

    private static void shadows() {
        DuneBench x = new DuneBench(16, 2);
        x.rules(1, 50, 50, 9, 0);
        x.heap(5, 9);
        for (int c = 0; c < 16; c++) {
            due("P12 inland shadow of 9 at cell " + c, c > 5 && c <= 13 ? 1 : 0, x.cell(c, 6));
            due("P12 seaward shadow of 9 at cell " + c, c < 5 ? 1 : 0, x.cell(c, 7));
        }
        x.heap(5, 3);
        for (int c = 0; c < 16; c++) {
            due("P12 inland shadow of 3 at cell " + c, c > 5 && c <= 8 ? 1 : 0, x.cell(c, 6));
            due("P12 seaward shadow of 3 at cell " + c, c < 5 && c >= 2 ? 1 : 0, x.cell(c, 7));
        }
        x.heap(7, 1);
        due("P12 at least k above its own", 1, x.cell(7, 6));
        x.heap(7, 2);
        due("P12 else not", 0, x.cell(7, 6));
        x = new DuneBench(4, 10);
        x.rules(1, 50, 50, 9, 0);
        x.heap(4 * 8 + 1, 3);
        int[] up = {1, 1, 0, 0, 0, 0, 0, 0, 0, 1};
        int[] down = {0, 0, 0, 0, 0, 1, 1, 1, 0, 0};
        for (int y = 0; y < 10; y++) {
            due("P12 up shadow at y " + y, up[y], x.cell(4 * y + 1, 8));
            due("P12 down shadow at y " + y, down[y], x.cell(4 * y + 1, 9));
            due("P12 no shadow in another x", 0, x.cell(4 * y + 2, 8));
        }
        for (int bad : new int[] {-1, 10, Integer.MIN_VALUE, Integer.MAX_VALUE}) {
            due("P12 what " + bad, NONE, x.cell(0, bad));
            due("P12 cell " + bad, bad == 10 ? 0 : NONE, x.cell(bad, 0));
        }
        due("P12 cell 40 of 40", NONE, x.cell(40, 0));
    }

    private static void works() {
        DuneBench x = new DuneBench(4, 2);
        due("P14 none to drop", 0, x.drop());
        int[][] bad = {{-1, 0, 1, 0}, {3, 0, 1, 0}, {0, -1, 1, 0}, {0, 8, 1, 0}, {0, 0, 0, 0}, {0, 0, 100, 0},
            {0, 0, 1, -1}, {0, 0, 1, 1000}, {Integer.MAX_VALUE, 0, 1, 0}, {0, Integer.MAX_VALUE, 1, 0},
            {0, 0, Integer.MIN_VALUE, 0}, {0, 0, 1, Integer.MIN_VALUE}};
        for (int[] w : bad) {
            due("P13 wrong work", NONE, x.work(w[0], w[1], w[2], w[3]));
        }
        due("P13 none came", 0, x.about(10));
        due("P13 first", 0, x.work(0, 0, 1, 0));
        due("P13 second", 1, x.work(1, 7, 99, 999));
        due("P13 third", 2, x.work(2, 3, 50, 5));
        due("P13 fourth", 3, x.work(2, 3, 50, 5));
        due("P13 a fifth", NONE, x.work(2, 3, 50, 5));
        due("P20 works", 4, x.about(10));
        due("P13 nothing is built by it", 0, x.cell(0, 2) + x.cell(7, 1));
        due("P14 drop", 4, x.drop());
        due("P14 none any more", 0, x.about(10));
        due("P13 numbers from 0 again", 0, x.work(0, 0, 1, 0));
    }

    private static void best() {
        DuneBench x = new DuneBench(4, 2);
        x.rules(1, 0, 100, 9, 0);
        x.heap(0, 4);
        x.heap(5, 2);
        x.lay(0, 3, 9);
        x.lay(5, 3, 9);
        x.work(2, 0, 2, 50);
        x.work(2, 0, 2, 30);
        x.work(2, 5, 99, 40);
        x.work(0, 2, 9, 0);
        int[][] asked = {{0, 6, 0}, {29, 6, 0}, {30, 4, 2}, {49, 4, 2}, {69, 4, 2}, {70, 2, 6}, {79, 2, 6},
            {80, 2, 6}, {119, 2, 6}, {120, 0, 7}, {9999, 0, 7}};
        for (int[] a : asked) {
            due("P15 best(" + a[0] + ", 1)", a[1], x.best(a[0], 1));
            due("P16 bestSet(" + a[0] + ", 1)", a[2], x.bestSet(a[0], 1));
        }
        for (int bad : new int[] {-1, 10000, Integer.MIN_VALUE, Integer.MAX_VALUE}) {
            due("P15 money " + bad, NONE, x.best(bad, 1));
            due("P16 money " + bad, NONE, x.bestSet(bad, 1));
        }
        for (int bad : new int[] {0, 61, -1, Integer.MIN_VALUE, Integer.MAX_VALUE}) {
            due("P15 days " + bad, NONE, x.best(1, bad));
            due("P16 days " + bad, NONE, x.bestSet(1, bad));
        }
        Checks.heapsAre("P15 nothing is changed", x, 4, 0, 0, 0, 0, 2, 0, 0);
        due("P15 no day went by", 0, x.about(0));
        // The one grain comes to the house by its fence, unless grass holds it or a fence ahead takes it.
        x = new DuneBench(6, 2);
        x.rules(1, 0, 0, 9, 0);
        x.heap(1, 1);
        x.lay(4, 3, 9);
        x.lay(4, 1, 5);
        Checks.blow(x, "inland 60;");
        due("P15 without works", 1, x.best(0, 60));
        x.work(2, 1, 1, 8);
        due("P15 dug away", 0, x.best(8, 60));
        x.work(0, 4, 1, 0);
        due("P15 a lower fence takes it too", 1, x.best(7, 60));
        due("P16 of like cost the least set", 0, x.bestSet(7, 60));
        x.work(2, 1, 99, 8);
        x.work(2, 1, 1, 7);
        due("P16 of like grains the least cost", 8, x.bestSet(99, 60));
        x.lay(1, 0, 100);
        due("P15 held by grass", 0, x.best(0, 60));
        due("P16 no work is the least", 0, x.bestSet(999, 60));
        x.drop();
        x.lay(1, 0, 0);
        x.work(0, 2, 1, 5);
        x.lay(2, 0, 100);
        due("P15 a fence ahead of it, where grass holds", 0, x.best(5, 60));
        due("P16 a fence ahead of it", 1, x.bestSet(5, 60));
        x.drop();
        x.work(1, 1, 99, 5);
        due("P15 grass that holds by these lots", 0, x.best(5, 60));
        due("P16 grass that holds by these lots", 1, x.bestSet(5, 60));
        due("P15 no grass grew by asking", 0, x.cell(1, 1));
        x.lay(1, 0, 100);
        x.lay(2, 0, 0);
        due("P15 grass that stays holds", 0, x.best(0, 60));
        x.lay(1, 2, 20);
        due("P15 grass that is walked down in two seasons doesn't", 1, x.best(0, 60));
        // As they would from now: what best(0, n) tells comes true.
        x = new DuneBench(8, 5);
        for (int c = 0; c < 40; c++) {
            x.heap(c, c * 7 % 5);
        }
        x.lay(22, 3, 9);
        x.lay(13, 3, 9);
        Checks.blow(x, "inland 3; up 2; seaward 1;");
        x.days(7);
        int told = x.best(0, 20);
        x.days(20);
        due("P15 comes true", told, x.cell(22, 0) + x.cell(13, 0));
    }

    private static void mark() {
        DuneBench x = new DuneBench(5, 3);
        x.heap(7, 2);
        x.days(4);
        due("P20 the mark's day", 0, x.about(12));
        x.flight(7, 2, 0);
        due("P19 the mark had no heap there", 0, x.fits(1));
        x.mark();
        due("P17 the mark's day", 4, x.about(12));
        due("P17 no flights any more", 0, x.about(11));
        x.flight(7, 2, 0);
        due("P17 the mark has the heap", 62, x.fits(1));
        x.heap(7, 0);
        x.rules(1, 0, 0, 1, 0);
        Checks.blow(x, "inland 60;");
        x.seed(99);
        x.lay(7, 3, 5);
        due("P17 what comes later is not in it", 62, x.fits(60));
        due("P17 the heap of now stays", 0, x.cell(7, 0));
    }

    private static void flights() {
        DuneBench x = new DuneBench(4, 2);
        int[][] bad = {{-1, 0, 0}, {8, 0, 0}, {0, -1, 0}, {0, 10000, 0}, {0, 0, -1}, {0, 0, 10},
            {Integer.MAX_VALUE, 0, 0}, {0, Integer.MIN_VALUE, 0}, {0, 0, Integer.MAX_VALUE}};
        for (int[] f : bad) {
            due("P18 wrong flight", NONE, x.flight(f[0], f[1], f[2]));
        }
        due("P18 none came", 0, x.about(11));
        for (int i = 1; i <= 20; i++) {
            due("P18 flight", i, x.flight(i % 8, i == 20 ? 9999 : 0, i % 10));
        }
        due("P18 a 21st", NONE, x.flight(0, 0, 0));
        due("P20 flights", 20, x.about(11));
        due("P19 the 20th does not fit", 0, x.fits(1));
    }

    private static void fits() {
        DuneBench x = new DuneBench(4, 2);
        x.heap(2, 2);
        x.mark();
        due("P19 without flights all fit", 62, x.fits(1));
        x.flight(2, 5, 3);
        due("P19 differs by just MISS", 62, x.fits(60));
        x.flight(3, 4, 3);
        due("P19 by one more", 0, x.fits(60));
        for (int bad : new int[] {0, 61, -1, Integer.MIN_VALUE, Integer.MAX_VALUE}) {
            due("P19 days " + bad, NONE, x.fits(bad));
        }
        due("P19 no day goes by", 0, x.about(0));
        // What goes by with a hop of h is told by flights over the whole grid: h fits.
        for (int hop = 1; hop <= 5; hop++) {
            x = new DuneBench(10, 2);
            for (int c = 0; c < 20; c++) {
                x.heap(c, c * 3 % 4);
            }
            x.rules(6 - hop, 30, 70, 2, 3);
            Checks.blow(x, "seaward 1; inland 2; up 1;");
            x.days(1);
            x.mark();
            x.rules(hop, 30, 70, 2, 3);
            x.days(9);
            for (int c = 0; c < 20; c++) {
                x.flight(c, x.cell(c, 0), 0);
            }
            due("P19 hop " + hop + " alone fits", 1 << hop, x.fits(9));
            due("P19 twice the same", 1 << hop, x.fits(9));
        }
    }

    private static void about() {
        DuneBench x = new DuneBench(6, 3);
        for (int bad : new int[] {-1, 13, 19, 25, Integer.MIN_VALUE, Integer.MAX_VALUE}) {
            due("P20 about(" + bad + ")", NONE, x.about(bad));
        }
        x.heap(3, 2);
        x.heap(9, 1);
        due("P20 grains", 3, x.about(3));
        x.rules(3, 10, 20, 4, 7);
        rulesAre("P20 rules", x, new int[] {3, 10, 20, 4, 7});
        // Grains are nowhere else: on the grid, or LOST.
        Checks.blow(x, "inland 2; seaward 1;");
        x.days(40);
        due("P20 every grain is counted", 3 + x.about(6), x.about(3) + x.about(4) + x.about(5));
        due("P20 supply", 27 * 7, x.about(6));
        due("P20 some went inland", true, x.about(5) > 0);
        due("P20 some went to the sea", true, x.about(4) > 0);
    }
}
