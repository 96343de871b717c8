import java.util.function.Predicate;

/** The document's DRAW, counted along with an object, and seeds by which lots fall as a test wants them. */
final class Lots {
    static final int ANY = -1;
    private int seed;

    Lots(int seed) {
        this.seed = seed;
    }

    int draw(int below) {
        seed = seed * 1103515245 + 12345;
        return (seed >>> 16) % below;
    }

    static int seedWhere(Predicate<Lots> wanted) {
        for (int seed = 1; seed < 100_000_000; seed++) {
            if (wanted.test(new Lots(seed))) {
                return seed;
            }
        }
        throw new IllegalStateException("no seed is like that");
    }

    /**
     * By it the first gust of a day picks this cell and these lots below 100 (ANY: any), and the other gusts pick
     * none of the cells to be avoided, which are all that could be lifted.
     */
    static int oneGust(int cells, int cell, int[] lots, int... avoided) {
        return seedWhere(l -> {
            if (l.draw(cells) != cell) {
                return false;
            }
            for (int lot : lots) {
                if (l.draw(100) != lot && lot != ANY) {
                    return false;
                }
            }
            for (int gust = 1; gust < cells; gust++) {
                int other = l.draw(cells);
                for (int a : avoided) {
                    if (other == a) {
                        return false;
                    }
                }
            }
            return true;
        });
    }
}
