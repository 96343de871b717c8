/** How DuneBench is used: a shore with one house, and what a fence, a dig or grass would do for it. */
public final class Shore {
    public static void main(String[] args) {
        DuneBench shore = new DuneBench(8, 4);    // 8 cells from the sea inland, 4 along it
        shore.rules(2, 60, 40, 3, 5);             // hops of 2 cells, slopes of 3, 5 grains a day by a wind inland
        shore.heap(9, 12);                        // twelve grains on the cell x 1, y 1; they slide
        shore.lay(20, 3, 4);                      // a house at x 4, y 2, reached by a heap of 4

        shore.feed(0x696e6c61, 0x6e642033, 0x3b207570, 0x20313b20, 0x20202020);   // "inland 3; up 1;" and blanks
        System.out.println("clauses: " + shore.winds());
        System.out.println("day: " + shore.days(40));
        System.out.println("the house was reached on day " + shore.cell(20, 5));

        shore.work(0, 18, 9, 30);                 // work 0: a fence of 9 at x 2, y 2, for 30
        shore.work(2, 20, 5, 40);                 // work 1: the house is dug out by 5, for 40
        shore.work(1, 19, 90, 20);                // work 2: grass of 90 at x 3, y 2, for 20
        for (int money = 0; money <= 90; money += 30) {
            int grains = shore.best(money, 10);   // on the house ten days on, by the best works for that money
            int works = shore.bestSet(money, 10); // which works these are: bit 0 is work 0
            System.out.println("for " + money + ": " + grains + " grains, works " + Integer.toBinaryString(works));
        }

        shore.mark();
        shore.flight(19, 3, 1);                   // five days on a heap of 2 to 4 was seen at x 3, y 2
        System.out.println("hops that fit: " + Integer.toBinaryString(shore.fits(5)));   // bit 1 is a hop of 1

        if (shore.cell(32, 0) == DuneBench.NONE) {
            System.out.println("there is no cell 32");
        }
    }
}
