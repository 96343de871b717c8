import java.util.Random;

/** Random runs of calls, each answer held against the PlainModel's, with a look at every cell in between. */
public final class ModelTest {
    private static final String[] WORDS = {"inland", "seaward", "up", "down", "calm"};
    private final Random random;
    private final DuneBench x;
    private final PlainModel m;
    private final String run;

    private ModelTest(int number) {
        random = new Random(number);
        run = "run " + number + ": ";
        int wide = random.nextInt(4) == 0 ? random.nextInt(30) - 5 : 4 + random.nextInt(6);
        int high = random.nextInt(4) == 0 ? random.nextInt(20) - 5 : 2 + random.nextInt(5);
        x = new DuneBench(wide, high);
        m = new PlainModel(wide, high);
    }

    public static void main(String[] args) {
        Checks.mustEnd();
        int runs = args.length > 0 ? Integer.parseInt(args[0]) : 400;
        for (int number = 1; number <= runs; number++) {
            new ModelTest(number).go();
        }
        Checks.close("ModelTest");
    }

    private void go() {
        int calls = 20 + random.nextInt(60);
        for (int i = 0; i < calls; i++) {
            call(i < 8 ? random.nextInt(8) : random.nextInt(24));
            if (random.nextInt(6) == 0) {
                lookAround();
            }
        }
        lookAround();
    }

    private int cell() {
        int cells = m.about(1) * m.about(2);
        return random.nextInt(30) == 0 ? (random.nextBoolean() ? -1 : cells) : random.nextInt(cells);
    }

    /** Within least .. most, at its edges, or just beyond them. */
    private int some(int least, int most) {
        switch (random.nextInt(20)) {
            case 0: return least - 1;
            case 1: return most + 1;
            case 2: return least;
            case 3: return most;
            default: return least + random.nextInt(most - least + 1);
        }
    }

    private void call(int which) {
        switch (which) {
            case 0: case 1: case 2: case 8: changeHeap(); break;
            case 3: case 4: case 9: changeCell(); break;
            case 5: case 10: changeRules(); break;
            case 6: case 7: case 11: changeWinds(); break;
            case 12: case 13: case 14: passDays(); break;
            case 15: cut(); break;
            case 16: case 17: addWork(); break;
            case 18: case 19: askBest(); break;
            case 20: mark(); break;
            case 21: flyOver(); break;
            case 22: askFits(); break;
            default: changeSeed(); break;
        }
    }

    private void changeHeap() {
        int c = cell();
        int v = random.nextInt(8) == 0 ? some(0, 999) : random.nextInt(25);
        Checks.due(run + "heap(" + c + ", " + v + ")", m.heap(c, v), x.heap(c, v));
    }

    private void changeCell() {
        int c = cell();
        int what = random.nextInt(25) == 0 ? some(0, 3) : random.nextInt(4);
        int[] most = {100, 99, 20, 999};
        int v = what == 3 ? some(0, 12) : what == 1 ? some(0, 9) : what >= 0 && what < 4 ? some(0, most[what]) : 1;
        Checks.due(run + "lay(" + c + ", " + what + ", " + v + ")", m.lay(c, what, v), x.lay(c, what, v));
    }

    private void changeRules() {
        int hop = some(1, 5);
        int lay = some(0, 100);
        int bare = some(0, 100);
        int slope = some(1, 9);
        int supply = some(0, 20);
        Checks.due(run + "rules(" + hop + ", " + lay + ", " + bare + ", " + slope + ", " + supply + ")",
                m.rules(hop, lay, bare, slope, supply), x.rules(hop, lay, bare, slope, supply));
    }

    private String text() {
        StringBuilder s = new StringBuilder();
        int clauses = random.nextInt(12) == 0 ? 18 + random.nextInt(5) : random.nextInt(5);
        for (int i = 0; i < clauses; i++) {
            s.append(random.nextInt(clauses > 10 ? 1 : 20) == 1 ? "Calm" : WORDS[clauses > 10 ? 2 : random.nextInt(5)]);
            s.append(random.nextBoolean() ? " " : "");
            s.append(random.nextInt(25) == 0 ? "0" : "").append(random.nextInt(20) == 0 ? some(1, 60) : 1 + random.nextInt(9));
            s.append(random.nextInt(40) == 0 ? "x" : ";").append(random.nextInt(3) == 0 && clauses < 10 ? "  " : "");
        }
        if (random.nextInt(6) == 0 && s.length() > 0) {
            s.setCharAt(random.nextInt(s.length()), (char) random.nextInt(256));
        }
        if (random.nextInt(8) == 0 && s.length() > 0) {
            s.setLength(random.nextInt(s.length()));
        }
        return s.toString();
    }

    private void changeWinds() {
        String text = text();
        byte[] bytes = Checks.bytes(text);
        for (int from = 0; from < bytes.length; from += 20) {
            int[] f = Checks.five(bytes, from);
            Checks.due(run + "feed", m.feed(f[0], f[1], f[2], f[3], f[4]), x.feed(f[0], f[1], f[2], f[3], f[4]));
        }
        int n = random.nextInt(10) == 0 ? some(0, 200) : bytes.length;
        Checks.due(run + "end(" + n + ")", m.end(n), x.end(n));
        if (random.nextInt(12) == 0) {
            return;
        }
        Checks.due(run + "winds() of '" + text + "'", m.winds(), x.winds());
        for (int what = -1; what < 3; what++) {
            Checks.due(run + "fault(" + what + ") of '" + text + "'", m.fault(what), x.fault(what));
        }
    }

    private void passDays() {
        int n = random.nextInt(3) == 0 ? some(1, 60) : 1 + random.nextInt(10);
        Checks.due(run + "days(" + n + ")", m.days(n), x.days(n));
    }

    private void cut() {
        int k = random.nextInt(3) == 0 ? some(1, 999) : 1 + random.nextInt(20);
        Checks.due(run + "storm(" + k + ")", m.storm(k), x.storm(k));
    }

    private void addWork() {
        if (random.nextInt(12) == 0) {
            Checks.due(run + "drop()", m.drop(), x.drop());
        }
        int kind = random.nextInt(15) == 0 ? some(0, 2) : random.nextInt(3);
        int c = cell();
        int v = some(1, 99);
        int cost = some(0, 999);
        Checks.due(run + "work(" + kind + ", " + c + ", " + v + ", " + cost + ")",
                m.work(kind, c, v, cost), x.work(kind, c, v, cost));
    }

    private void askBest() {
        int money = random.nextInt(8) == 0 ? some(0, 9999) : random.nextInt(2500);
        int n = random.nextInt(10) == 0 ? some(1, 60) : 1 + random.nextInt(4);
        Checks.due(run + "best(" + money + ", " + n + ")", m.best(money, n), x.best(money, n));
        Checks.due(run + "bestSet(" + money + ", " + n + ")", m.bestSet(money, n), x.bestSet(money, n));
    }

    private void mark() {
        m.mark();
        x.mark();
    }

    private void flyOver() {
        int c = cell();
        int seen = random.nextInt(10) == 0 ? some(0, 9999) : Math.max(0, m.cell(c, 0) + random.nextInt(5) - 2);
        int miss = some(0, 9);
        Checks.due(run + "flight(" + c + ", " + seen + ", " + miss + ")",
                m.flight(c, seen, miss), x.flight(c, seen, miss));
    }

    private void askFits() {
        int n = random.nextInt(10) == 0 ? some(1, 60) : 1 + random.nextInt(8);
        Checks.due(run + "fits(" + n + ")", m.fits(n), x.fits(n));
    }

    private void changeSeed() {
        int s = random.nextInt();
        m.seed(s);
        x.seed(s);
    }

    private void lookAround() {
        for (int what = -1; what < 26; what++) {
            Checks.due(run + "about(" + what + ")", m.about(what), x.about(what));
        }
        for (int c = -1; c <= m.about(1) * m.about(2); c++) {
            for (int what = -1; what <= 10; what++) {
                Checks.due(run + "cell(" + c + ", " + what + ")", m.cell(c, what), x.cell(c, what));
            }
        }
    }
}
