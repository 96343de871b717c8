/**
 * A bench of dunes: a shore of heaps under winds, storms, grass, fences and houses, the best few works
 * under money, and the hop lengths that fit what was measured from the air.
 *
 * <p>Three states of the shore are made once: the one of now, the mark, and one to try things on, so that
 * a call makes no objects.
 */
public final class DuneBench {
    public static final int NONE = -1;

    /** Winds have the numbers of the ways from a cell to its neighbours, so that a wind is a way. */
    private static final int INLAND = 0;
    private static final int CALM = 4;
    private static final int WAYS = 4;

    /** Where each rule stands, in the order of rules(). */
    private static final int HOP = 0;
    private static final int LAY = 1;
    private static final int BARE = 2;
    private static final int SLOPE = 3;
    private static final int SUPPLY = 4;
    private static final int[] FIRST_RULES = {2, 60, 40, 2, 2};

    private static final int[] MOST_LAID = {100, 99, 20, 999};
    private static final int MOST_HOPS = 10;
    private static final int FARTHEST_SHADOW = 8;
    private static final int SEASON_DAYS = 30;
    private static final int LAST_DAY = 3000;
    private static final int MOST_DAYS_AT_ONCE = 60;
    private static final int MOST_BYTES = 200;
    private static final int MOST_CLAUSES = 20;
    private static final int MOST_WORKS = 4;
    private static final int MOST_FLIGHTS = 20;

    private final Shape shape;
    private final Dunes now;
    private final Dunes marked;
    private final Dunes trial;
    private final WindTape tape;
    private final Works works;
    private final Flights flights;
    private int fewestGrains;

    public DuneBench(int wide, int high) {
        shape = new Shape(nearest(wide, 4, 16), nearest(high, 2, 10));
        now = new Dunes(shape);
        marked = new Dunes(shape);
        trial = new Dunes(shape);
        tape = new WindTape();
        works = new Works();
        flights = new Flights();
        fewestGrains = 0;
    }

    public boolean heap(int cell, int v) {
        if (!shape.has(cell) || !isWithin(v, 0, 999)) {
            return false;
        }
        now.pile(cell, v);
        return true;
    }

    public boolean lay(int cell, int what, int v) {
        if (!shape.has(cell) || !isWithin(what, 0, MOST_LAID.length - 1) || !isWithin(v, 0, MOST_LAID[what])) {
            return false;
        }
        now.put(cell, what, v);
        return true;
    }

    public boolean rules(int hop, int lay, int bare, int slope, int supply) {
        if (!isWithin(hop, 1, 5) || !isWithin(lay, 0, 100) || !isWithin(bare, 0, 100)
                || !isWithin(slope, 1, 9) || !isWithin(supply, 0, 20)) {
            return false;
        }
        now.rules[HOP] = hop;
        now.rules[LAY] = lay;
        now.rules[BARE] = bare;
        now.rules[SLOPE] = slope;
        now.rules[SUPPLY] = supply;
        now.settleAll();
        return true;
    }

    public void seed(int s) {
        now.lots = s;
    }

    public int feed(int a, int b, int c, int d, int e) {
        if (tape.length + 20 > MOST_BYTES) {
            return NONE;
        }
        tape.append(a);
        tape.append(b);
        tape.append(c);
        tape.append(d);
        tape.append(e);
        return tape.length;
    }

    public int end(int n) {
        if (!isWithin(n, 0, tape.length)) {
            return NONE;
        }
        tape.length = n;
        return n;
    }

    public int winds() {
        boolean good = tape.read();
        tape.length = 0;
        if (!good) {
            return NONE;
        }
        now.sky.copyFrom(tape.draft);
        return now.sky.count;
    }

    public int fault(int what) {
        switch (what) {
            case 0:
                return tape.faultKind;
            case 1:
                return tape.faultPlace;
            default:
                return NONE;
        }
    }

    public int days(int n) {
        if (!now.canPass(n)) {
            return NONE;
        }
        now.pass(n);
        return now.day;
    }

    public int storm(int k) {
        if (!isWithin(k, 1, 999)) {
            return NONE;
        }
        return now.cut(k);
    }

    public int cell(int cell, int what) {
        if (!shape.has(cell)) {
            return NONE;
        }
        return now.look(cell, what);
    }

    public int work(int kind, int cell, int v, int cost) {
        if (!isWithin(kind, 0, 2) || !shape.has(cell) || !isWithin(v, 1, 99) || !isWithin(cost, 0, 999)) {
            return NONE;
        }
        return works.add(kind, cell, v, cost);
    }

    public int drop() {
        int had = works.count;
        works.count = 0;
        return had;
    }

    public int best(int money, int n) {
        return chooseWorks(money, n) == NONE ? NONE : fewestGrains;
    }

    public int bestSet(int money, int n) {
        return chooseWorks(money, n);
    }

    public void mark() {
        marked.copyFrom(now);
        flights.count = 0;
    }

    public int flight(int cell, int seen, int miss) {
        if (!shape.has(cell) || !isWithin(seen, 0, 9999) || !isWithin(miss, 0, 9)) {
            return NONE;
        }
        return flights.add(cell, seen, miss);
    }

    public int fits(int n) {
        if (!marked.canPass(n)) {
            return NONE;
        }
        int fitting = 0;
        for (int hop = 1; hop <= 5; hop++) {
            trial.copyFrom(marked);
            trial.rules[HOP] = hop;
            trial.pass(n);
            if (flights.agreeWith(trial)) {
                fitting |= 1 << hop;
            }
        }
        return fitting;
    }

    public int about(int what) {
        if (isWithin(what, 20, 24)) {
            return now.rules[what - 20];
        }
        switch (what) {
            case 0: return now.day;
            case 1: return shape.wide;
            case 2: return shape.high;
            case 3: return now.grains();
            case 4: return now.lostToSea;
            case 5: return now.lostInland;
            case 6: return now.supplied;
            case 7: return now.sky.count;
            case 8: return now.sky.next();
            case 9: return tape.length;
            case 10: return works.count;
            case 11: return flights.count;
            case 12: return marked.day;
            default: return NONE;
        }
    }

    /** Answers the best set, or NONE; how many grains it leaves on houses stands in fewestGrains then. */
    private int chooseWorks(int money, int n) {
        if (!isWithin(money, 0, 9999) || !now.canPass(n)) {
            return NONE;
        }
        int chosen = NONE;
        int chosenCost = 0;
        // Sets come from the least on, so that of like ones the least stays.
        for (int set = 0; set < 1 << works.count; set++) {
            int cost = works.costOf(set);
            if (cost > money) {
                continue;
            }
            trial.copyFrom(now);
            works.carryOut(set, trial);
            trial.pass(n);
            int grains = trial.grainsOnHouses();
            if (chosen == NONE || grains < fewestGrains || (grains == fewestGrains && cost < chosenCost)) {
                chosen = set;
                chosenCost = cost;
                fewestGrains = grains;
            }
        }
        return chosen;
    }

    private static boolean isWithin(int v, int least, int most) {
        return v >= least && v <= most;
    }

    private static int nearest(int v, int least, int most) {
        return Math.max(least, Math.min(most, v));
    }

    private static void copyRow(int[] from, int[] to) {
        System.arraycopy(from, 0, to, 0, Math.min(from.length, to.length));
    }

    /** How cells lie to one another. */
    private static final class Shape {
        final int wide;
        final int high;
        final int cells;
        /** Four for each cell: right, left, y more, y less; NONE beyond the sea or inland. */
        private final int[] neighbours;

        Shape(int wide, int high) {
            this.wide = wide;
            this.high = high;
            cells = wide * high;
            neighbours = new int[cells * WAYS];
            for (int y = 0; y < high; y++) {
                int above = y + 1 < high ? y + 1 : 0;
                int below = y > 0 ? y - 1 : high - 1;
                for (int x = 0; x < wide; x++) {
                    int c = y * wide + x;
                    neighbours[c * WAYS] = x + 1 < wide ? c + 1 : NONE;
                    neighbours[c * WAYS + 1] = x > 0 ? c - 1 : NONE;
                    neighbours[c * WAYS + 2] = above * wide + x;
                    neighbours[c * WAYS + 3] = below * wide + x;
                }
            }
        }

        boolean has(int c) {
            return c >= 0 && c < cells;
        }

        /** Of NONE it is NONE, so that several steps may be gone in a row. */
        int beside(int c, int way) {
            int i = c * WAYS + way;
            return c >= 0 && i >= 0 && i < neighbours.length ? neighbours[i] : NONE;
        }
    }

    /** Cells that may stand too steep, as bits: slides are looked for there alone. */
    private static final class Doubts {
        private final long[] bits = new long[3];

        void add(int c) {
            int i = c >> 6;
            if (i >= 0 && i < bits.length) {
                bits[i] |= 1L << (c & 63);
            }
        }

        void remove(int c) {
            int i = c >> 6;
            if (i >= 0 && i < bits.length) {
                bits[i] &= ~(1L << (c & 63));
            }
        }

        int lowest() {
            for (int i = 0; i < bits.length; i++) {
                long row = bits[i];
                if (row != 0) {
                    return i * 64 + Long.bitCount((row & -row) - 1);
                }
            }
            return NONE;
        }
    }

    /** Winds that go round, and where in them the next day is. */
    private static final class Winds {
        private final int[] wind = new int[MOST_CLAUSES];
        private final int[] lasting = new int[MOST_CLAUSES];
        int count;
        private int clause;
        private int daysOfClause;

        void clear() {
            count = 0;
            clause = 0;
            daysOfClause = 0;
        }

        boolean isFull() {
            return count >= MOST_CLAUSES;
        }

        void add(int newWind, int newLasting) {
            if (isFull() || count < 0) {
                return;
            }
            wind[count] = newWind;
            lasting[count] = newLasting;
            count++;
        }

        int next() {
            return clause >= 0 && clause < count && clause < wind.length ? wind[clause] : CALM;
        }

        void passDay() {
            if (clause < 0 || clause >= count || clause >= lasting.length) {
                return;
            }
            daysOfClause++;
            if (daysOfClause >= lasting[clause]) {
                daysOfClause = 0;
                clause = clause + 1 < count ? clause + 1 : 0;
            }
        }

        void copyFrom(Winds other) {
            copyRow(other.wind, wind);
            copyRow(other.lasting, lasting);
            count = other.count;
            clause = other.clause;
            daysOfClause = other.daysOfClause;
        }
    }

    /** The bytes that were fed, and their reading as winds. */
    private static final class WindTape {
        private static final int NO_FAULT = 0;
        private static final int MISPLACED = 1;
        private static final int BAD_NUMBER = 2;
        private static final int TOO_MANY = 3;

        /** What may come next: a clause is these three in turn. */
        private static final int DUE_WORD = 0;
        private static final int DUE_NUMBER = 1;
        private static final int DUE_STOP = 2;

        private final byte[] bytes = new byte[MOST_BYTES];
        int length;
        int faultKind = NONE;
        int faultPlace = NONE;
        /** What was read; winds in force are changed only once all of it is good. */
        final Winds draft = new Winds();

        void append(int four) {
            for (int shift = 24; shift >= 0 && length >= 0 && length < bytes.length; shift -= 8) {
                bytes[length] = (byte) (four >> shift);
                length++;
            }
        }

        boolean read() {
            draft.clear();
            int due = DUE_WORD;
            int word = CALM;
            int at = afterBlanks(0);
            for (int tokens = 0; tokens < MOST_BYTES && at < length; tokens++) {
                int to = tokenEnd(at);
                int wrong = faultOf(due, at, to);
                if (wrong != NO_FAULT) {
                    return tell(wrong, at);
                }
                if (due == DUE_WORD) {
                    word = windOf(at, to);
                } else if (due == DUE_NUMBER) {
                    draft.add(word, numberOf(at, to));
                }
                due = due == DUE_STOP ? DUE_WORD : due + 1;
                at = afterBlanks(to);
            }
            return due == DUE_WORD ? tell(NO_FAULT, NONE) : tell(MISPLACED, length);
        }

        private boolean tell(int kind, int place) {
            faultKind = kind;
            faultPlace = place;
            return kind == NO_FAULT;
        }

        /** The least fault of one token, where it may have several. */
        private int faultOf(int due, int from, int to) {
            if (due == DUE_WORD) {
                if (windOf(from, to) == NONE) {
                    return MISPLACED;
                }
                return draft.isFull() ? TOO_MANY : NO_FAULT;
            }
            if (due == DUE_NUMBER) {
                if (!isDigit(byteAt(from))) {
                    return MISPLACED;
                }
                return isWithin(numberOf(from, to), 1, MOST_DAYS_AT_ONCE) ? NO_FAULT : BAD_NUMBER;
            }
            return byteAt(from) == ';' ? NO_FAULT : MISPLACED;
        }

        private int byteAt(int i) {
            return i >= 0 && i < length && i < bytes.length ? bytes[i] : 0;
        }

        private int afterBlanks(int from) {
            int at = from;
            while (at < length && byteAt(at) == ' ') {
                at++;
            }
            return at;
        }

        private int tokenEnd(int from) {
            int to = from + 1;
            if (isLetter(byteAt(from))) {
                while (to < length && isLetter(byteAt(to))) {
                    to++;
                }
            } else if (isDigit(byteAt(from))) {
                while (to < length && isDigit(byteAt(to))) {
                    to++;
                }
            }
            return to;
        }

        private int windOf(int from, int to) {
            for (int w = 0; w <= CALM; w++) {
                if (isWord(nameOf(w), from, to)) {
                    return w;
                }
            }
            return NONE;
        }

        private boolean isWord(String name, int from, int to) {
            if (to - from != name.length()) {
                return false;
            }
            for (int i = 0; i < name.length(); i++) {
                if (byteAt(from + i) != name.charAt(i)) {
                    return false;
                }
            }
            return true;
        }

        private int numberOf(int from, int to) {
            int number = 0;
            for (int i = from; i < to; i++) {
                // Two hundred digits would wrap round; beyond a thousand it is too much anyway.
                number = Math.min(1000, number * 10 + byteAt(i) - '0');
            }
            return number;
        }

        private static String nameOf(int wind) {
            switch (wind) {
                case 0: return "inland";
                case 1: return "seaward";
                case 2: return "up";
                case 3: return "down";
                default: return "calm";
            }
        }

        private static boolean isLetter(int b) {
            return isWithin(b, 'a', 'z') || isWithin(b, 'A', 'Z');
        }

        private static boolean isDigit(int b) {
            return isWithin(b, '0', '9');
        }
    }

    /** The whole of a shore at one time: the grid, the rules, the lots, the day and the winds. */
    private static final class Dunes {
        /**
         * A slide lessens the sum of the squared heaps by 2 or more and brings 4 doubts at most. That sum
         * stays under 700 million: heaps of 999 all over, and 60,000 grains of supply by the last day.
         */
        private static final int MOST_STEPS = 2000000000;

        private final Shape shape;
        private final int[] heap;
        private final int[] heapAtSeason;
        private final int[] grass;
        private final int[] fence;
        private final int[] walkers;
        private final int[] limit;
        private final int[] reached;
        private final Doubts doubts = new Doubts();
        final int[] rules = new int[FIRST_RULES.length];
        final Winds sky = new Winds();
        int lots = 1;
        int day;
        int lostToSea;
        int lostInland;
        int supplied;

        Dunes(Shape shape) {
            this.shape = shape;
            heap = new int[shape.cells];
            heapAtSeason = new int[shape.cells];
            grass = new int[shape.cells];
            fence = new int[shape.cells];
            walkers = new int[shape.cells];
            limit = new int[shape.cells];
            reached = new int[shape.cells];
            for (int c = 0; c < reached.length; c++) {
                reached[c] = NONE;
            }
            copyRow(FIRST_RULES, rules);
        }

        /** Doubts are not copied: between calls there are none. */
        void copyFrom(Dunes other) {
            copyRow(other.heap, heap);
            copyRow(other.heapAtSeason, heapAtSeason);
            copyRow(other.grass, grass);
            copyRow(other.fence, fence);
            copyRow(other.walkers, walkers);
            copyRow(other.limit, limit);
            copyRow(other.reached, reached);
            copyRow(other.rules, rules);
            sky.copyFrom(other.sky);
            lots = other.lots;
            day = other.day;
            lostToSea = other.lostToSea;
            lostInland = other.lostInland;
            supplied = other.supplied;
        }

        void pile(int c, int v) {
            if (!shape.has(c)) {
                return;
            }
            heap[c] = v;
            heapAtSeason[c] = v;
            doubtAbove(c);
            doubts.add(c);
            settle();
        }

        void put(int c, int what, int v) {
            if (!shape.has(c)) {
                return;
            }
            switch (what) {
                case 0:
                    grass[c] = v;
                    break;
                case 1:
                    fence[c] = v;
                    break;
                case 2:
                    walkers[c] = v;
                    break;
                default:
                    limit[c] = v;
                    reached[c] = NONE;
                    break;
            }
        }

        int look(int c, int what) {
            if (!shape.has(c)) {
                return NONE;
            }
            switch (what) {
                case 0: return heap[c];
                case 1: return grass[c];
                case 2: return fence[c];
                case 3: return walkers[c];
                case 4: return limit[c];
                case 5: return reached[c];
                case 6:
                case 7:
                case 8:
                case 9:
                    return isInShadow(c, what - 6) ? 1 : 0;
                default: return NONE;
            }
        }

        int grains() {
            int sum = 0;
            for (int c = 0; c < heap.length; c++) {
                sum += heap[c];
            }
            return sum;
        }

        int grainsOnHouses() {
            int sum = 0;
            for (int c = 0; c < heap.length; c++) {
                if (limit[c] > 0) {
                    sum += heap[c];
                }
            }
            return sum;
        }

        /** A storm: answers how many grains it took. */
        int cut(int k) {
            int taken = 0;
            for (int y = 0; y < shape.high; y++) {
                int left = k;
                for (int x = 0; x < shape.wide; x++) {
                    int c = y * shape.wide + x;
                    int lost = Math.min(left, heap[c]);
                    heap[c] -= lost;
                    left -= lost;
                    taken += lost;
                }
            }
            lostToSea += taken;
            settleAll();
            return taken;
        }

        void settleAll() {
            for (int c = 0; c < heap.length; c++) {
                doubts.add(c);
            }
            settle();
        }

        /** A heap that became lower leaves no one too steep but neighbours above it. */
        private void doubtAbove(int c) {
            for (int way = 0; way < WAYS; way++) {
                int other = shape.beside(c, way);
                if (other != NONE && heap[other] - heap[c] > rules[SLOPE]) {
                    doubts.add(other);
                }
            }
        }

        /** A heap that became higher is the only one that can have become too steep. */
        private void raise(int c) {
            if (!shape.has(c)) {
                return;
            }
            heap[c]++;
            doubts.add(c);
            settle();
        }

        /** By as many grains as there are, at most. */
        void lower(int c, int grains) {
            if (!shape.has(c)) {
                return;
            }
            heap[c] -= Math.min(grains, heap[c]);
            doubtAbove(c);
            settle();
        }

        private void settle() {
            for (int step = 0; step < MOST_STEPS; step++) {
                int c = doubts.lowest();
                if (!shape.has(c)) {
                    return;
                }
                int to = lowestBeside(c);
                if (shape.has(to) && heap[c] - heap[to] > rules[SLOPE]) {
                    heap[c]--;
                    heap[to]++;
                    doubtAbove(c);
                    doubts.add(to);
                } else {
                    doubts.remove(c);
                }
            }
        }

        private int lowestBeside(int c) {
            int lowest = NONE;
            for (int way = 0; way < WAYS; way++) {
                int other = shape.beside(c, way);
                if (other != NONE && (lowest == NONE || heap[other] < heap[lowest])) {
                    lowest = other;
                }
            }
            return lowest;
        }

        private boolean isInShadow(int c, int wind) {
            int against = wind ^ 1;
            int at = c;
            for (int k = 1; k <= FARTHEST_SHADOW; k++) {
                at = shape.beside(at, against);
                if (at == NONE) {
                    return false;
                }
                if (heap[at] - heap[c] >= k) {
                    return true;
                }
            }
            return false;
        }

        private int draw(int below) {
            lots = lots * 1103515245 + 12345;
            return below > 0 ? (lots >>> 16) % below : 0;
        }

        boolean canPass(int n) {
            return isWithin(n, 1, MOST_DAYS_AT_ONCE) && day + n <= LAST_DAY;
        }

        void pass(int n) {
            for (int i = 0; i < n; i++) {
                int wind = sky.next();
                if (wind == INLAND) {
                    bringSupply();
                }
                if (wind != CALM) {
                    blow(wind);
                }
                sky.passDay();
                day++;
                reachHouses();
                if (day % SEASON_DAYS == 0) {
                    passSeason();
                }
            }
        }

        private void bringSupply() {
            for (int i = 0; i < rules[SUPPLY]; i++) {
                supplied++;
                raise(draw(shape.high) * shape.wide);
            }
        }

        private void blow(int wind) {
            for (int i = 0; i < heap.length; i++) {
                int c = draw(heap.length);
                if (isLifted(c, wind)) {
                    lower(c, 1);
                    int at = landing(c, wind);
                    if (at == NONE) {
                        lose(wind);
                    } else {
                        raise(at);
                    }
                }
            }
        }

        private boolean isLifted(int c, int wind) {
            if (!shape.has(c) || heap[c] == 0 || limit[c] > 0 || isInShadow(c, wind)) {
                return false;
            }
            return grass[c] == 0 || draw(100) >= grass[c];
        }

        /** Answers where the grain comes to lie, or NONE if it is gone. */
        private int landing(int from, int wind) {
            int at = from;
            for (int hops = 1; hops <= MOST_HOPS; hops++) {
                at = afterHop(at, wind);
                if (at == NONE || hops == MOST_HOPS || isLaid(at, wind)) {
                    return at;
                }
            }
            return at;
        }

        private int afterHop(int from, int wind) {
            int at = from;
            for (int i = 0; i < rules[HOP]; i++) {
                at = shape.beside(at, wind);
            }
            return at;
        }

        private boolean isLaid(int c, int wind) {
            if (isInShadow(c, wind) || heap[c] < fence[c]) {
                return true;
            }
            return draw(100) < (heap[c] == 0 ? rules[BARE] : rules[LAY]);
        }

        private void lose(int wind) {
            if (wind == INLAND) {
                lostInland++;
            } else {
                lostToSea++;
            }
        }

        private void reachHouses() {
            for (int c = 0; c < heap.length; c++) {
                if (limit[c] > 0 && reached[c] == NONE && heap[c] >= limit[c]) {
                    reached[c] = day;
                }
            }
        }

        private void passSeason() {
            for (int c = 0; c < heap.length; c++) {
                if (grass[c] > 0) {
                    int grown = grass[c] + growth(heap[c] - heapAtSeason[c]) - walkers[c];
                    grass[c] = nearest(grown, 0, 100);
                }
                heapAtSeason[c] = heap[c];
            }
        }

        private static int growth(int rise) {
            if (rise < -2) {
                return -20;
            }
            if (rise < 0) {
                return -5;
            }
            if (rise == 0) {
                return 1;
            }
            if (rise <= 3) {
                return 6;
            }
            return rise <= 6 ? 2 : -30;
        }
    }

    /** Works that may be done, by their numbers. */
    private static final class Works {
        private static final int FENCE = 0;
        private static final int GRASS = 1;

        private final int[] kinds = new int[MOST_WORKS];
        private final int[] cells = new int[MOST_WORKS];
        private final int[] amounts = new int[MOST_WORKS];
        private final int[] costs = new int[MOST_WORKS];
        int count;

        int add(int kind, int c, int amount, int cost) {
            if (count < 0 || count >= MOST_WORKS) {
                return NONE;
            }
            kinds[count] = kind;
            cells[count] = c;
            amounts[count] = amount;
            costs[count] = cost;
            count++;
            return count - 1;
        }

        int costOf(int set) {
            int sum = 0;
            for (int i = 0; i < count && i < MOST_WORKS; i++) {
                if ((set >> i & 1) != 0) {
                    sum += costs[i];
                }
            }
            return sum;
        }

        /** The grid settles behind each: by that alone do their numbers matter, as the document says. */
        void carryOut(int set, Dunes dunes) {
            for (int i = 0; i < count && i < MOST_WORKS; i++) {
                if ((set >> i & 1) == 0) {
                    continue;
                }
                if (kinds[i] == FENCE) {
                    dunes.put(cells[i], 1, amounts[i]);
                } else if (kinds[i] == GRASS) {
                    dunes.put(cells[i], 0, amounts[i]);
                } else {
                    dunes.lower(cells[i], amounts[i]);
                }
            }
        }
    }

    /** What was measured from the air behind the mark. */
    private static final class Flights {
        private final int[] cells = new int[MOST_FLIGHTS];
        private final int[] seen = new int[MOST_FLIGHTS];
        private final int[] miss = new int[MOST_FLIGHTS];
        int count;

        int add(int c, int heapSeen, int most) {
            if (count < 0 || count >= MOST_FLIGHTS) {
                return NONE;
            }
            cells[count] = c;
            seen[count] = heapSeen;
            miss[count] = most;
            count++;
            return count;
        }

        boolean agreeWith(Dunes dunes) {
            for (int i = 0; i < count && i < MOST_FLIGHTS; i++) {
                if (Math.abs(dunes.look(cells[i], 0) - seen[i]) > miss[i]) {
                    return false;
                }
            }
            return true;
        }
    }
}
