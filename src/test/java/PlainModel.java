import java.util.ArrayList;
import java.util.Arrays;
import java.util.List;
import java.util.regex.Matcher;
import java.util.regex.Pattern;

/**
 * The document written down a second time, as plainly and slowly as can be: whole grids are copied, every
 * settling looks at every cell again, the text is read by a pattern. ModelTest holds DuneBench against it.
 */
final class PlainModel {
    static final int NONE = -1;
    private static final List<String> WORDS = List.of("inland", "seaward", "up", "down", "calm");

    static final class Shore implements Cloneable {
        int wide, high, seed = 1, day, sea, inland, supplied, gone;
        int hop = 2, lay = 60, bare = 40, slope = 2, supply = 2;
        int[][] heap, old, grass, fence, walkers, limit, reached;
        List<int[]> winds = new ArrayList<>();

        Shore(int wide, int high) {
            this.wide = wide;
            this.high = high;
            heap = new int[high][wide];
            old = new int[high][wide];
            grass = new int[high][wide];
            fence = new int[high][wide];
            walkers = new int[high][wide];
            limit = new int[high][wide];
            reached = new int[high][wide];
            for (int[] row : reached) {
                Arrays.fill(row, NONE);
            }
        }

        Shore copy() {
            Shore s = new Shore(wide, high);
            s.seed = seed; s.day = day; s.sea = sea; s.inland = inland; s.supplied = supplied; s.gone = gone;
            s.hop = hop; s.lay = lay; s.bare = bare; s.slope = slope; s.supply = supply;
            s.heap = deep(heap); s.old = deep(old); s.grass = deep(grass); s.fence = deep(fence);
            s.walkers = deep(walkers); s.limit = deep(limit); s.reached = deep(reached);
            s.winds = new ArrayList<>(winds);
            return s;
        }

        private static int[][] deep(int[][] a) {
            int[][] b = new int[a.length][];
            for (int i = 0; i < a.length; i++) {
                b[i] = a[i].clone();
            }
            return b;
        }

        int draw(int m) {
            seed = seed * 1103515245 + 12345;
            return (seed >>> 16) % m;
        }

        void settle() {
            boolean again = true;
            while (again) {
                again = false;
                for (int c = 0; c < wide * high && !again; c++) {
                    again = slide(c % wide, c / wide);
                }
            }
        }

        private boolean slide(int x, int y) {
            int[][] spots = {{x + 1, y}, {x - 1, y}, {x, (y + 1) % high}, {x, (y + high - 1) % high}};
            int[] lowest = null;
            boolean steep = false;
            for (int[] p : spots) {
                if (p[0] < 0 || p[0] >= wide) {
                    continue;
                }
                steep |= heap[y][x] > heap[p[1]][p[0]] + slope;
                if (lowest == null || heap[p[1]][p[0]] < heap[lowest[1]][lowest[0]]) {
                    lowest = p;
                }
            }
            if (steep) {
                heap[y][x]--;
                heap[lowest[1]][lowest[0]]++;
            }
            return steep;
        }

        boolean shadow(int x, int y, int wind) {
            int dx = wind == 0 ? 1 : wind == 1 ? -1 : 0;
            int dy = wind == 2 ? 1 : wind == 3 ? -1 : 0;
            for (int k = 1; k <= 8; k++) {
                int sx = x - k * dx;
                int sy = Math.floorMod(y - k * dy, high);
                if (sx >= 0 && sx < wide && heap[sy][sx] >= heap[y][x] + k) {
                    return true;
                }
            }
            return false;
        }

        int wind() {
            int all = 0;
            for (int[] w : winds) {
                all += w[1];
            }
            if (all == 0) {
                return 4;
            }
            int at = gone % all;
            for (int[] w : winds) {
                if (at < w[1]) {
                    return w[0];
                }
                at -= w[1];
            }
            throw new IllegalStateException();
        }

        void day() {
            int wind = wind();
            gone++;
            if (wind == 0) {
                for (int i = 0; i < supply; i++) {
                    heap[draw(high)][0]++;
                    supplied++;
                    settle();
                }
            }
            for (int i = 0; wind != 4 && i < wide * high; i++) {
                int c = draw(wide * high);
                gust(c % wide, c / wide, wind);
            }
            day++;
            for (int y = 0; y < high; y++) {
                for (int x = 0; x < wide; x++) {
                    if (limit[y][x] != 0 && reached[y][x] < 0 && heap[y][x] >= limit[y][x]) {
                        reached[y][x] = day;
                    }
                }
            }
            if (day % 30 == 0) {
                season();
            }
        }

        private void gust(int x, int y, int wind) {
            if (heap[y][x] == 0 || shadow(x, y, wind) || limit[y][x] != 0) {
                return;
            }
            if (grass[y][x] > 0 && draw(100) < grass[y][x]) {
                return;
            }
            heap[y][x]--;
            settle();
            int gx = x;
            int gy = y;
            for (int jump = 1;; jump++) {
                if (wind == 0) { gx += hop; }
                if (wind == 1) { gx -= hop; }
                if (wind == 2) { gy = Math.floorMod(gy + hop, high); }
                if (wind == 3) { gy = Math.floorMod(gy - hop, high); }
                if (gx < 0) { sea++; return; }
                if (gx >= wide) { inland++; return; }
                boolean laid = jump == 10 || shadow(gx, gy, wind) || heap[gy][gx] < fence[gy][gx]
                        || draw(100) < (heap[gy][gx] == 0 ? bare : lay);
                if (laid) {
                    heap[gy][gx]++;
                    settle();
                    return;
                }
            }
        }

        private void season() {
            for (int y = 0; y < high; y++) {
                for (int x = 0; x < wide; x++) {
                    int d = heap[y][x] - old[y][x];
                    int g = d < -2 ? -20 : d < 0 ? -5 : d == 0 ? 1 : d <= 3 ? 6 : d <= 6 ? 2 : -30;
                    if (grass[y][x] > 0) {
                        grass[y][x] = Math.max(0, Math.min(100, grass[y][x] + g - walkers[y][x]));
                    }
                    old[y][x] = heap[y][x];
                }
            }
        }

        int sum(boolean housesOnly) {
            int sum = 0;
            for (int y = 0; y < high; y++) {
                for (int x = 0; x < wide; x++) {
                    if (!housesOnly || limit[y][x] > 0) {
                        sum += heap[y][x];
                    }
                }
            }
            return sum;
        }
    }

    private Shore now;
    private Shore marked;
    private StringBuilder tape = new StringBuilder();
    private int[] fault = {NONE, NONE};
    private final List<int[]> works = new ArrayList<>();
    private final List<int[]> flights = new ArrayList<>();

    PlainModel(int wide, int high) {
        now = new Shore(Math.max(4, Math.min(16, wide)), Math.max(2, Math.min(10, high)));
        marked = now.copy();
    }

    private boolean off(int cell) { return cell < 0 || cell >= now.wide * now.high; }

    private static boolean out(int v, int a, int b) { return v < a || v > b; }

    boolean heap(int cell, int v) {
        if (off(cell) || out(v, 0, 999)) { return false; }
        now.heap[cell / now.wide][cell % now.wide] = v;
        now.old[cell / now.wide][cell % now.wide] = v;
        now.settle();
        return true;
    }

    boolean lay(int cell, int what, int v) {
        if (off(cell) || v < 0) { return false; }
        int y = cell / now.wide;
        int x = cell % now.wide;
        if (what == 0 && v <= 100) { now.grass[y][x] = v; return true; }
        if (what == 1 && v <= 99) { now.fence[y][x] = v; return true; }
        if (what == 2 && v <= 20) { now.walkers[y][x] = v; return true; }
        if (what == 3 && v <= 999) { now.limit[y][x] = v; now.reached[y][x] = NONE; return true; }
        return false;
    }

    boolean rules(int hop, int lay, int bare, int slope, int supply) {
        if (out(hop, 1, 5) || out(lay, 0, 100) || out(bare, 0, 100) || out(slope, 1, 9) || out(supply, 0, 20)) {
            return false;
        }
        now.hop = hop; now.lay = lay; now.bare = bare; now.slope = slope; now.supply = supply;
        now.settle();
        return true;
    }

    void seed(int s) { now.seed = s; }

    int feed(int a, int b, int c, int d, int e) {
        if (tape.length() > 180) { return NONE; }
        for (int v : new int[] {a, b, c, d, e}) {
            tape.append((char) (v >>> 24)).append((char) (v >>> 16 & 255));
            tape.append((char) (v >>> 8 & 255)).append((char) (v & 255));
        }
        return tape.length();
    }

    int end(int n) {
        if (n < 0 || n > tape.length()) { return NONE; }
        tape.setLength(n);
        return n;
    }

    int winds() {
        String text = tape.toString();
        tape = new StringBuilder();
        List<int[]> read = new ArrayList<>();
        Matcher m = Pattern.compile("[a-zA-Z]+|[0-9]+|[^ ]", Pattern.DOTALL).matcher(text);
        int turn = 0;
        int word = 0;
        while (m.find()) {
            String t = m.group();
            int wrong = 0;
            if (turn == 0) {
                word = WORDS.indexOf(t);
                wrong = word < 0 ? 1 : read.size() == 20 ? 3 : 0;
            } else if (turn == 1) {
                if (!t.matches("[0-9]+")) {
                    wrong = 1;
                } else if (!t.matches("0*([1-9]|[1-5][0-9]|60)")) {
                    wrong = 2;
                } else {
                    read.add(new int[] {word, Integer.parseInt(t.replaceFirst("^0+", ""))});
                }
            } else if (!t.equals(";")) {
                wrong = 1;
            }
            if (wrong > 0) {
                fault = new int[] {wrong, m.start()};
                return NONE;
            }
            turn = (turn + 1) % 3;
        }
        if (turn != 0) {
            fault = new int[] {1, text.length()};
            return NONE;
        }
        fault = new int[] {0, NONE};
        now.winds = read;
        now.gone = 0;
        return read.size();
    }

    int fault(int what) { return what == 0 || what == 1 ? fault[what] : NONE; }

    int days(int n) {
        if (out(n, 1, 60) || now.day + n > 3000) { return NONE; }
        for (int i = 0; i < n; i++) { now.day(); }
        return now.day;
    }

    int storm(int k) {
        if (out(k, 1, 999)) { return NONE; }
        int took = 0;
        for (int[] row : now.heap) {
            for (int grain = 0; grain < k; grain++) {
                for (int x = 0; x < now.wide; x++) {
                    if (row[x] > 0) {
                        row[x]--;
                        took++;
                        break;
                    }
                }
            }
        }
        now.sea += took;
        now.settle();
        return took;
    }

    int cell(int cell, int what) {
        if (off(cell)) { return NONE; }
        int y = cell / now.wide;
        int x = cell % now.wide;
        if (what >= 6 && what <= 9) { return now.shadow(x, y, what - 6) ? 1 : 0; }
        int[][][] rows = {now.heap, now.grass, now.fence, now.walkers, now.limit, now.reached};
        return what >= 0 && what < 6 ? rows[what][y][x] : NONE;
    }

    int work(int kind, int cell, int v, int cost) {
        if (out(kind, 0, 2) || off(cell) || out(v, 1, 99) || out(cost, 0, 999) || works.size() == 4) { return NONE; }
        works.add(new int[] {kind, cell, v, cost});
        return works.size() - 1;
    }

    int drop() {
        int n = works.size();
        works.clear();
        return n;
    }

    private int[] choose(int money, int n) {
        if (out(money, 0, 9999) || out(n, 1, 60) || now.day + n > 3000) { return new int[] {NONE, NONE, NONE}; }
        List<int[]> all = new ArrayList<>();
        for (int set = 0; set < 1 << works.size(); set++) {
            Shore s = now.copy();
            int cost = 0;
            for (int i = 0; i < works.size(); i++) {
                if ((set & 1 << i) == 0) { continue; }
                int[] w = works.get(i);
                int y = w[1] / s.wide;
                int x = w[1] % s.wide;
                cost += w[3];
                if (w[0] == 0) { s.fence[y][x] = w[2]; }
                if (w[0] == 1) { s.grass[y][x] = w[2]; }
                if (w[0] == 2) { s.heap[y][x] = Math.max(0, s.heap[y][x] - w[2]); }
                s.settle();
            }
            if (cost > money) { continue; }
            for (int i = 0; i < n; i++) { s.day(); }
            all.add(new int[] {s.sum(true), cost, set});
        }
        all.sort(Arrays::compare);
        return all.get(0);
    }

    int best(int money, int n) { return choose(money, n)[0]; }

    int bestSet(int money, int n) { return choose(money, n)[2]; }

    void mark() {
        marked = now.copy();
        flights.clear();
    }

    int flight(int cell, int seen, int miss) {
        if (off(cell) || out(seen, 0, 9999) || out(miss, 0, 9) || flights.size() == 20) { return NONE; }
        flights.add(new int[] {cell, seen, miss});
        return flights.size();
    }

    int fits(int n) {
        if (out(n, 1, 60) || marked.day + n > 3000) { return NONE; }
        int bits = 0;
        for (int hop = 1; hop < 6; hop++) {
            Shore s = marked.copy();
            s.hop = hop;
            for (int i = 0; i < n; i++) { s.day(); }
            boolean fit = true;
            for (int[] f : flights) {
                fit &= Math.abs(s.heap[f[0] / s.wide][f[0] % s.wide] - f[1]) <= f[2];
            }
            if (fit) { bits += 1 << hop; }
        }
        return bits;
    }

    int about(int what) {
        int[] first = {now.day, now.wide, now.high, now.sum(false), now.sea, now.inland, now.supplied,
            now.winds.size(), now.wind(), tape.length(), works.size(), flights.size(), marked.day};
        int[] rules = {now.hop, now.lay, now.bare, now.slope, now.supply};
        if (what >= 0 && what < first.length) { return first[what]; }
        return what >= 20 && what < 25 ? rules[what - 20] : NONE;
    }
}
