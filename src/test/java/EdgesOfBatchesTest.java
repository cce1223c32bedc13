/** The boundary cases of promises 11 to 19, but for 13 and for drops (tests of their own); LimitsTest has those of single numbers. */
public final class EdgesOfBatchesTest {
    private static final int UNKNOWN = -2, OUTSIDE = -3, NOT = -4, SHORT = -5, FULL = -6;
    private static final int MOST = 1000000;
    private static final Due due = new Due();
    private static final Twins twins = new Twins(due);

    public static void main(String[] args) {
        twentyFourBatches();
        weighOneAndAll();
        weighUpToAll();
        weighAllBasesTogether();
        weighRefusedInOrder();
        openUntilPoured();
        amountsOfNothing();
        shadeIsCut();
        shadeUpToTheGreatest();
        shadeWithoutScatter();
        shadeOfNothing();
        missIsTheGreatestDifference();
        missAtTheEdgesOfTheAim();
        missRefusedInOrder();
        due.end();
    }

    private static void batches(ColourWorks x, int n) {
        x.base(10, 10);
        x.lot(0, 100, 9);
        for (int i = 0; i < n; i++) {
            x.batch();
        }
    }

    private static void twentyFourBatches() {
        twins.answers("11: the 23rd", x -> batches(x, 22), x -> x.batch(), 22);
        twins.answers("11: the 24th", x -> batches(x, 23), x -> x.batch(), 23);
        twins.refused("11: the 25th", x -> batches(x, 24), x -> x.batch(), FULL);
        twins.answers("12: into the 24th", x -> batches(x, 24), x -> x.weigh(23, 0, 7), 7);
        twins.refused("12: into a 25th", x -> batches(x, 24), x -> x.weigh(24, 0, 7), UNKNOWN);
        twins.refused("11: no room by one that is poured", x -> {
            batches(x, 24);
            x.weigh(0, 0, 5);
            x.pour(0, 0);
        }, x -> x.batch(), FULL);
    }

    private static void stock(ColourWorks x, int lots) {
        x.base(10, 10);
        for (int i = 0; i < lots; i++) {
            x.lot(0, 20000, 9);
        }
        x.batch();
        x.batch();
    }

    private static void weighOneAndAll() {
        twins.answers("12: one", x -> stock(x, 1), x -> x.weigh(0, 0, 1), 1);
        twins.answers("12: 19999", x -> stock(x, 1), x -> x.weigh(0, 0, 19999), 19999);
        twins.answers("12: 20000", x -> stock(x, 1), x -> x.weigh(0, 0, 20000), 20000);
        twins.refused("12: 20001 is outside ahead of full", x -> stock(x, 2), x -> x.weigh(0, 0, 20001), OUTSIDE);
        twins.refused("12: 20001 is outside ahead of short", x -> stock(x, 1), x -> x.weigh(0, 0, 20001), OUTSIDE);
        twins.refused("12: 0", x -> stock(x, 1), x -> x.weigh(0, 0, 0), OUTSIDE);
    }

    private static void weighed(ColourWorks x, int n) {
        stock(x, 2);
        x.weigh(0, 0, n);
    }

    private static void weighUpToAll() {
        twins.answers("12: 19999 together", x -> weighed(x, 12000), x -> x.weigh(0, 0, 7999), 19999);
        twins.answers("12: 20000 together", x -> weighed(x, 12000), x -> x.weigh(0, 0, 8000), 20000);
        twins.refused("12: 20001 together", x -> weighed(x, 12000), x -> x.weigh(0, 0, 8001), FULL);
        twins.refused("12: 32000 together", x -> weighed(x, 12000), x -> x.weigh(0, 0, 20000), FULL);
        twins.answers("12: one at 19999", x -> weighed(x, 19999), x -> x.weigh(0, 0, 1), 20000);
        twins.refused("12: one at 20000", x -> weighed(x, 20000), x -> x.weigh(0, 0, 1), FULL);
        twins.answers("12: another batch has room", x -> weighed(x, 20000), x -> x.weigh(1, 0, 20000), 20000);
    }

    private static void eightKinds(ColourWorks x, int ofEach) {
        x.batch();
        for (int base = 0; base < 8; base++) {
            x.base(base, 10);
            x.lot(base, 20000, 9);
            x.weigh(0, base, ofEach);
        }
    }

    private static void weighAllBasesTogether() {
        twins.answers("12: 20000 of eight bases", x -> eightKinds(x, 2499), x -> x.weigh(0, 7, 8), 20000);
        twins.refused("12: 20001 of eight bases", x -> eightKinds(x, 2499), x -> x.weigh(0, 7, 9), FULL);
        twins.refused("12: 20001 by the first base", x -> eightKinds(x, 2500), x -> x.weigh(0, 0, 1), FULL);
    }

    private static void full(ColourWorks x) {
        stock(x, 1);
        x.weigh(0, 0, 20000);
        x.lot(0, 50, 9);
    }

    private static void poured(ColourWorks x) {
        full(x);
        x.holds(0, 20000);
        x.pour(0, 0);
    }

    private static void weighRefusedInOrder() {
        twins.refused("12: short ahead of full", EdgesOfBatchesTest::full, x -> x.weigh(0, 0, 51), SHORT);
        twins.refused("12: full", EdgesOfBatchesTest::full, x -> x.weigh(0, 0, 50), FULL);
        twins.refused("12: outside ahead of full", EdgesOfBatchesTest::full, x -> x.weigh(0, 0, 0), OUTSIDE);
        twins.refused("12: base unknown ahead of full", EdgesOfBatchesTest::full, x -> x.weigh(0, 1, 1), UNKNOWN);
        twins.refused("12: not open ahead of full", EdgesOfBatchesTest::poured, x -> x.weigh(0, 0, 50), NOT);
        twins.refused("12: not open ahead of short", EdgesOfBatchesTest::poured, x -> x.weigh(0, 0, 51), NOT);
        twins.refused("12: outside ahead of not open", EdgesOfBatchesTest::poured, x -> x.weigh(0, 0, 20001), OUTSIDE);
        twins.refused("12: base unknown ahead of not open", EdgesOfBatchesTest::poured, x -> x.weigh(0, 1, 1), UNKNOWN);
        twins.refused("12: batch unknown ahead of outside", EdgesOfBatchesTest::poured, x -> x.weigh(2, 0, 0), UNKNOWN);
        twins.refused("12: base unknown ahead of outside", EdgesOfBatchesTest::poured, x -> x.weigh(1, 1, 0), UNKNOWN);
        twins.refused("12: batch unknown ahead of short", EdgesOfBatchesTest::poured, x -> x.weigh(2, 0, 51), UNKNOWN);
        twins.refused("12: not open alone", x -> {
            stock(x, 1);
            x.weigh(0, 0, 10);
            x.pour(0, 0);
        }, x -> x.weigh(0, 0, 1), NOT);
    }

    private static void openUntilPoured() {
        ColourWorks x = new ColourWorks();
        stock(x, 1);
        x.weigh(0, 0, 1001);
        due.is("22: no room", x.pour(0, 0), FULL);
        due.is("12: a refused pouring leaves it open", x.weigh(0, 0, 1), 1002);
        due.is("29: an open batch", x.recall(0, 1), 1);
        x.holds(0, 1002);
        due.is("22: room", x.pour(0, 0), 1002);
        due.is("12: no longer open", x.weigh(0, 0, 1), NOT);
        due.is("29: no open batch", x.recall(0, 1), 0);
        x.fill(0, 1000);
        x.fill(0, 2);
        x.clean(0);
        due.is("12: nor when the tank is clean again", x.weigh(0, 0, 1), NOT);
        due.is("17: its amount stays told", x.amount(0, 0), 1002);
    }

    private static void amountsOfNothing() {
        ColourWorks x = new ColourWorks();
        x.batch();
        due.is("17: no base yet", x.amount(0, 0), UNKNOWN);
        x.base(1, 1);
        due.is("17: of nothing", x.amount(0, 0), 0);
        due.is("17: no second base", x.amount(0, 1), UNKNOWN);
        due.is("17: no second batch", x.amount(1, 0), UNKNOWN);
        x.lot(0, 1, 9);
        x.weigh(0, 0, 1);
        due.is("17: one", x.amount(0, 0), 1);
    }

    /** A batch of so many units of base 0 and of base 1, with these strengths. */
    private static ColourWorks pair(int[] strengths, int n0, int n1) {
        ColourWorks x = new ColourWorks();
        x.base(strengths[0], strengths[1]);
        x.base(strengths[2], strengths[3]);
        x.lot(0, 20000, 9);
        x.lot(1, 20000, 9);
        x.batch();
        if (n0 > 0) {
            x.weigh(0, 0, n0);
        }
        if (n1 > 0) {
            x.weigh(0, 1, n1);
        }
        return x;
    }

    private static void shadeIs(String what, int[] strengths, int n0, int n1, int want) {
        ColourWorks x = pair(strengths, n0, n1);
        for (int band = 0; band < 3; band++) {
            due.is("18: " + what + ", band " + band, x.shade(0, band), want);
        }
    }

    private static void shadeIsCut() {
        shadeIs("just 2000", new int[] {2, 1, 1, 1}, 19999, 0, 2000);
        shadeIs("just below 2000", new int[] {2, 1, 1, 1}, 9999, 1, 1999);
        shadeIs("0.9 is cut to 0", new int[] {9, 1000, 0, 1000}, 1, 9, 0);
        shadeIs("just 1", new int[] {1, 1000, 0, 1}, 1, 0, 1);
        shadeIs("just below 1", new int[] {1, 1000, 0, 1}, 1, 1, 0);
        shadeIs("two thirds", new int[] {2, 3, 0, 1}, 7, 0, 666);
        shadeIs("nothing absorbs", new int[] {0, 1, 0, 1}, 5, 5, 0);
    }

    private static void shadeUpToTheGreatest() {
        int[] row = {1000, 1, 999, 1};
        shadeIs("just the greatest", row, 1000, 0, MOST);
        shadeIs("one below the greatest", row, 999, 1, MOST - 1);
        shadeIs("two below the greatest", row, 998, 2, MOST - 2);
        shadeIs("less than one below", row, 19999, 1, MOST - 1);
        shadeIs("above the greatest", new int[] {1000, 1, 1, 0}, 1000, 1, MOST);
        shadeIs("far above the greatest", new int[] {1000, 0, 0, 1}, 19999, 1, MOST);
        shadeIs("the greatest sums of all", new int[] {1000, 1000, 1000, 1000}, 10000, 10000, 1000);
    }

    private static void shadeWithoutScatter() {
        shadeIs("no scatter", new int[] {1, 0, 0, 1}, 5, 0, MOST);
        shadeIs("no scatter, nothing absorbs", new int[] {0, 0, 0, 1}, 5, 0, MOST);
        shadeIs("least scatter, nothing absorbs", new int[] {0, 0, 0, 1}, 5, 1, 0);
        shadeIs("least scatter", new int[] {1, 0, 0, 1}, 5, 1, 5000);
        ColourWorks x = pair(new int[] {10, 10, 0, 0}, 5, 0);
        x.band(0, 1, 10, 0);
        due.is("18: no scatter in one band", x.shade(0, 1), MOST);
        due.is("18: scatter in the band below", x.shade(0, 0), 1000);
        due.is("18: scatter in the band above", x.shade(0, 2), 1000);
    }

    private static void shadeOfNothing() {
        twins.refused("18: of nothing", x -> stock(x, 1), x -> x.shade(0, 0), NOT);
        twins.answers("18: of one unit", x -> weighed(x, 1), x -> x.shade(0, 0), 1000);
        twins.refused("18: band unknown ahead of of nothing", x -> stock(x, 1), x -> x.shade(0, 3), UNKNOWN);
        twins.refused("18: batch unknown", x -> stock(x, 1), x -> x.shade(2, 0), UNKNOWN);
        twins.refused("18: a refused weighing leaves it of nothing", x -> {
            stock(x, 1);
            x.weigh(0, 0, 20001);
        }, x -> x.shade(0, 0), NOT);
    }

    /** A batch with shades 1000, 2000, 3000. */
    private static void shades(ColourWorks x) {
        x.base(1, 1);
        x.band(0, 1, 2, 1);
        x.band(0, 2, 3, 1);
        x.lot(0, 20, 9);
        x.weigh(x.batch(), 0, 10);
        x.batch();
    }

    private static void missIsTheGreatestDifference() {
        int[][] rows = {{1000, 2000, 3000, 0}, {999, 2000, 3000, 1}, {1001, 2000, 3000, 1}, {1000, 1999, 3000, 1},
            {1000, 2001, 3000, 1}, {1000, 2000, 2999, 1}, {1000, 2000, 3001, 1}, {990, 2009, 3009, 10},
            {1009, 1990, 2991, 10}, {1009, 2009, 2990, 10}, {1010, 2010, 2990, 10}};
        for (int[] row : rows) {
            twins.answers("19: from " + row[0] + ", " + row[1] + ", " + row[2], EdgesOfBatchesTest::shades,
                x -> x.miss(0, row[0], row[1], row[2]), row[3]);
        }
    }

    private static void missAtTheEdgesOfTheAim() {
        twins.answers("19: all 0", EdgesOfBatchesTest::shades, x -> x.miss(0, 0, 0, 0), 3000);
        twins.answers("19: all the greatest", EdgesOfBatchesTest::shades, x -> x.miss(0, MOST, MOST, MOST), MOST - 1000);
        ColourWorks x = pair(new int[] {1, 0, 0, 1}, 1, 0);
        due.is("19: the greatest miss", x.miss(0, 0, 0, 0), MOST);
        due.is("19: the greatest from itself", x.miss(0, MOST, MOST, MOST), 0);
        ColourWorks y = pair(new int[] {1, 0, 0, 1}, 0, 1);
        due.is("19: none from the greatest", y.miss(0, MOST, 0, 0), MOST);
        due.is("19: none from none", y.miss(0, 0, 0, 0), 0);
    }

    private static void missRefusedInOrder() {
        twins.refused("19: of nothing", EdgesOfBatchesTest::shades, x -> x.miss(1, 0, 0, 0), NOT);
        twins.refused("19: x outside ahead of of nothing", EdgesOfBatchesTest::shades, x -> x.miss(1, -1, 0, 0), OUTSIDE);
        twins.refused("19: y outside ahead of of nothing", EdgesOfBatchesTest::shades, x -> x.miss(1, 0, MOST + 1, 0), OUTSIDE);
        twins.refused("19: z outside ahead of of nothing", EdgesOfBatchesTest::shades, x -> x.miss(1, 0, 0, -1), OUTSIDE);
        twins.refused("19: unknown ahead of outside", EdgesOfBatchesTest::shades, x -> x.miss(2, 0, 0, -1), UNKNOWN);
    }
}
