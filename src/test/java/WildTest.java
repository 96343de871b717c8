import java.util.Random;

/** Any arguments in any order: no call throws, and each object takes its 512 calls. */
public final class WildTest {
    private static final int[] EDGES = {0, 1, -1, 2, 4, 9, 10, 20, 60, 61, 99, 100, 160, 200, 999, 1000, 3000, 9999,
        10000, Integer.MAX_VALUE, Integer.MIN_VALUE, Integer.MAX_VALUE - 20, 1 << 30};
    private static final Random RANDOM = new Random(5);

    public static void main(String[] args) {
        Checks.mustEnd();
        for (int i = 0; i < 60; i++) {
            DuneBench x = new DuneBench(any(), any());
            int threw = 0;
            for (int call = 0; call < 512; call++) {
                try {
                    callAny(x);
                } catch (RuntimeException e) {
                    threw++;
                    System.out.println("object " + i + " threw " + e);
                }
            }
            Checks.due("object " + i + ", calls that threw", 0, threw);
        }
        Checks.close("WildTest");
    }

    private static int any() {
        int kind = RANDOM.nextInt(4);
        return kind == 0 ? RANDOM.nextInt() : kind == 1 ? EDGES[RANDOM.nextInt(EDGES.length)] : RANDOM.nextInt(12);
    }

    private static void callAny(DuneBench x) {
        switch (RANDOM.nextInt(20)) {
            case 0: x.heap(any(), any()); break;
            case 1: x.lay(any(), any(), any()); break;
            case 2: x.rules(any(), any(), any(), any(), any()); break;
            case 3: x.seed(any()); break;
            case 4: x.feed(any(), any(), any(), any(), any()); break;
            case 5: x.end(any()); break;
            case 6: x.winds(); break;
            case 7: x.fault(any()); break;
            case 8: x.days(any()); break;
            case 9: x.storm(any()); break;
            case 10: x.cell(any(), any()); break;
            case 11: x.work(any(), any(), any(), any()); break;
            case 12: x.drop(); break;
            case 13: x.best(any(), any()); break;
            case 14: x.bestSet(any(), any()); break;
            case 15: x.mark(); break;
            case 16: x.flight(any(), any(), any()); break;
            case 17: x.fits(any()); break;
            case 18: x.about(any()); break;
            default:
                Checks.write(x, "inland 3; up 2; seaward 1; down 1;");
                x.winds();
                break;
        }
    }
}
