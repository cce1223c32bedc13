/** Promises 11 to 19, but for 13 (RecipesTest). */
public final class BatchesTest {
    private static final int UNKNOWN = -2, OUTSIDE = -3, NOT = -4, SHORT = -5, FULL = -6;
    private static final int MOST = 1000000;
    private static final Due due = new Due();

    public static void main(String[] args) {
        batch();
        weigh();
        weighToTheEdge();
        amount();
        shade();
        miss();
        dropsRefused();
        dropsByHand();
        dropsOfFewest();
        dropsOfLeastNumbers();
        dropsOfSeveralBases();
        dropsByEachBand();
        dropsOfAllEight();
        dropsWithinStockAndRoom();
        drop();
        dropIn();
        dropInOfNothing();
        due.end();
    }

    private static void batch() {
        ColourWorks x = new ColourWorks();
        for (int i = 0; i < 24; i++) {
            due.is("11: batch " + i, x.batch(), i);
        }
        due.is("11: the 25th", x.batch(), FULL);
        due.is("11: 24", x.count(3), 24);
        x.base(1, 1);
        due.is("11: of nothing", x.amount(23, 0), 0);
        x.lot(0, 5, 9);
        x.weigh(23, 0, 5);
        due.is("29: in the last one", x.recall(0, 1), 1);
    }

    private static void weigh() {
        ColourWorks x = new ColourWorks();
        x.base(1, 1);
        x.base(1, 1);
        x.batch();
        x.lot(0, 50, 9);
        due.is("12: batch below", x.weigh(-1, 0, 1), UNKNOWN);
        due.is("12: batch above", x.weigh(1, 0, 1), UNKNOWN);
        due.is("12: base below", x.weigh(0, -1, 1), UNKNOWN);
        due.is("12: base above", x.weigh(0, 2, 1), UNKNOWN);
        due.is("12: unknown ahead of outside", x.weigh(0, 2, 0), UNKNOWN);
        due.is("12: n 0", x.weigh(0, 0, 0), OUTSIDE);
        due.is("12: n below", x.weigh(0, 0, -5), OUTSIDE);
        due.is("12: n above", x.weigh(0, 0, 20001), OUTSIDE);
        due.is("12: no lot", x.weigh(0, 1, 1), SHORT);
        due.is("12: too much", x.weigh(0, 0, 51), SHORT);
        due.is("12: all", x.weigh(0, 0, 50), 50);
        x.pour(0, 0);
        due.is("12: outside ahead of not", x.weigh(0, 0, 0), OUTSIDE);
        due.is("12: not ahead of short", x.weigh(0, 0, 1), NOT);
    }

    private static void weighToTheEdge() {
        ColourWorks x = new ColourWorks();
        x.base(1, 1);
        x.batch();
        x.lot(0, 20000, 9);
        x.lot(0, 5, 9);
        due.is("12: 19999", x.weigh(0, 0, 19999), 19999);
        due.is("12: short ahead of full", x.weigh(0, 0, 7), SHORT);
        due.is("12: full", x.weigh(0, 0, 2), FULL);
        due.is("12: nothing changed", x.left(0), 1);
        due.is("12: no lot came", x.recall(1, 1), 0);
        due.is("12: 20000", x.weigh(0, 0, 1), 20000);
    }

    private static void amount() {
        ColourWorks x = new ColourWorks();
        x.base(1, 1);
        x.base(1, 1);
        x.batch();
        x.batch();
        x.lot(1, 50, 9);
        x.weigh(1, 1, 20);
        due.is("17: batch below", x.amount(-1, 0), UNKNOWN);
        due.is("17: batch above", x.amount(2, 0), UNKNOWN);
        due.is("17: base below", x.amount(0, -1), UNKNOWN);
        due.is("17: base above", x.amount(0, 2), UNKNOWN);
        due.is("17: another batch", x.amount(0, 1), 0);
        due.is("17: another base", x.amount(1, 0), 0);
        due.is("17: the amount", x.amount(1, 1), 20);
        x.weigh(1, 1, 5);
        x.pour(1, 0);
        due.is("17: of a poured one", x.amount(1, 1), 25);
    }

    private static void shade() {
        ColourWorks x = new ColourWorks();
        x.base(7, 3);
        x.base(0, 9);
        x.base(1000, 0);
        x.base(0, 0);
        x.band(0, 1, 2, 7);
        x.batch();
        for (int base = 0; base < 4; base++) {
            x.lot(base, 20000, 9);
        }
        due.is("18: of nothing", x.shade(0, 0), NOT);
        due.is("18: unknown ahead of not", x.shade(0, 3), UNKNOWN);
        x.weigh(0, 0, 5);
        due.is("18: batch below", x.shade(-1, 0), UNKNOWN);
        due.is("18: batch above", x.shade(1, 0), UNKNOWN);
        due.is("18: band below", x.shade(0, -1), UNKNOWN);
        due.is("18: band above", x.shade(0, 3), UNKNOWN);
        due.is("18: cut", x.shade(0, 0), 2333);
        due.is("18: another band", x.shade(0, 1), 285);
        x.weigh(0, 1, 2);
        due.is("18: two bases", x.shade(0, 0), 35000 / 33);
        x.pour(0, 0);
        due.is("18: of a poured one", x.shade(0, 2), 35000 / 33);
        x.batch();
        x.weigh(1, 3, 1);
        due.is("18: both sums are 0", x.shade(1, 0), MOST);
        x.weigh(1, 1, 1);
        due.is("18: the upper sum is 0", x.shade(1, 0), 0);
        x.weigh(1, 2, 9);
        due.is("18: just the greatest", x.shade(1, 0), MOST);
        x.weigh(1, 2, 1);
        due.is("18: cut to the greatest", x.shade(1, 0), MOST);
        x.weigh(1, 2, 19000);
        due.is("18: far above", x.shade(1, 0), MOST);
        x.batch();
        x.base(1000, 1);
        x.lot(4, 20000, 9);
        x.weigh(2, 4, 20000);
        due.is("18: 20000 of 1000", x.shade(2, 0), MOST);
        x.band(4, 0, 999, 1000);
        due.is("18: great sums", x.shade(2, 0), 999);
    }

    private static void miss() {
        ColourWorks x = new ColourWorks();
        x.base(1, 1);
        x.band(0, 1, 2, 1);
        x.band(0, 2, 3, 1);
        x.batch();
        x.lot(0, 10, 9);
        due.is("19: of nothing", x.miss(0, 1, 1, 1), NOT);
        due.is("19: outside ahead of not", x.miss(0, -1, 1, 1), OUTSIDE);
        x.weigh(0, 0, 10);
        due.is("19: batch below", x.miss(-1, 0, 0, 0), UNKNOWN);
        due.is("19: unknown ahead of outside", x.miss(1, -1, 0, 0), UNKNOWN);
        due.is("19: x below", x.miss(0, -1, 0, 0), OUTSIDE);
        due.is("19: y below", x.miss(0, 0, -1, 0), OUTSIDE);
        due.is("19: z below", x.miss(0, 0, 0, -1), OUTSIDE);
        due.is("19: x above", x.miss(0, MOST + 1, 0, 0), OUTSIDE);
        due.is("19: y above", x.miss(0, 0, MOST + 1, 0), OUTSIDE);
        due.is("19: z above", x.miss(0, 0, 0, MOST + 1), OUTSIDE);
        due.is("19: none", x.miss(0, 1000, 2000, 3000), 0);
        due.is("19: of x", x.miss(0, 1050, 2049, 2951), 50);
        due.is("19: of y", x.miss(0, 1050, 1949, 3050), 51);
        due.is("19: of z", x.miss(0, 950, 2050, 3051), 51);
        due.is("19: edges", x.miss(0, 0, MOST, 0), MOST - 2000);
        x.pour(0, 0);
        due.is("19: of a poured one", x.miss(0, 1000, 2000, 3000), 0);
    }

    private static void dropsRefused() {
        ColourWorks x = new ColourWorks();
        x.base(1, 1);
        x.batch();
        x.lot(0, 20, 9);
        due.is("14: of nothing", x.drops(0, 0, 0, 0, 0), NOT);
        due.is("14: outside ahead of not", x.drops(0, 9, 0, 0, 0), OUTSIDE);
        x.weigh(0, 0, 10);
        due.is("14: batch below", x.drops(-1, 0, 0, 0, 0), UNKNOWN);
        due.is("14: unknown ahead of outside", x.drops(1, 9, 0, 0, 0), UNKNOWN);
        due.is("14: most below", x.drops(0, -1, 0, 0, 0), OUTSIDE);
        due.is("14: most above", x.drops(0, 9, 0, 0, 0), OUTSIDE);
        due.is("14: x below", x.drops(0, 1, -1, 0, 0), OUTSIDE);
        due.is("14: y below", x.drops(0, 1, 0, -1, 0), OUTSIDE);
        due.is("14: z below", x.drops(0, 1, 0, 0, -1), OUTSIDE);
        due.is("14: x above", x.drops(0, 1, MOST + 1, 0, 0), OUTSIDE);
        due.is("14: y above", x.drops(0, 1, 0, MOST + 1, 0), OUTSIDE);
        due.is("14: z above", x.drops(0, 1, 0, 0, MOST + 1), OUTSIDE);
        due.is("16: none were found", x.dropIn(0), NOT);
        due.is("14: none allowed", x.drops(0, 0, 0, MOST, 0), MOST - 1000);
        due.is("14: found", x.dropIn(0), 10);
        x.pour(0, 0);
        due.is("14: not open", x.drops(0, 1, 0, 0, 0), NOT);
    }

    private static void dropsByHand() {
        ColourWorks x = new ColourWorks();
        x.base(0, 10);
        x.base(10, 10);
        x.batch();
        x.lot(0, 100, 9);
        x.lot(1, 100, 9);
        x.weigh(0, 0, 4);
        due.is("14: half and half", x.drops(0, 8, 500, 500, 500), 0);
        due.is("15: base 0", x.drop(0), 0);
        due.is("15: base 1", x.drop(1), 4);
        due.is("14: too few", x.drops(0, 3, 500, 500, 500), 500 - 3000 / 7);
        due.is("15: three", x.drop(1), 3);
        due.is("14: two thirds of 9", x.drops(0, 8, 666, 666, 666), 0);
        due.is("15: all eight", x.drop(1), 8);
        due.is("14: nothing was taken", x.may(1), 100);
        due.is("14: nothing came", x.amount(0, 1), 0);
        x.band(1, 1, 10, 0);
        due.is("14: the worst band counts", x.drops(0, 8, 500, 1000, 500), 0);
        due.is("15: by both bands", x.drop(1), 4);
    }

    private static void dropsOfFewest() {
        ColourWorks x = new ColourWorks();
        x.base(5, 5);
        x.base(20, 5);
        x.base(5, 20);
        x.batch();
        for (int base = 0; base < 3; base++) {
            x.lot(base, 100, 9);
        }
        x.weigh(0, 0, 10);
        due.is("14: it fits already", x.drops(0, 8, 1000, 1000, 1000), 0);
        due.is("15: none", x.drop(0) + x.drop(1) + x.drop(2), 0);
        x.weigh(0, 1, 2);
        due.is("14: back", x.drops(0, 8, 1000, 1000, 1000), 0);
        due.is("15: two of base 2 and no more", x.drop(0) * 100 + x.drop(1) * 10 + x.drop(2), 2);
    }

    private static void dropsOfLeastNumbers() {
        ColourWorks x = new ColourWorks();
        for (int base = 0; base < 4; base++) {
            x.base(base == 0 ? 0 : 10, 10);
            x.lot(base, 100, 9);
        }
        x.batch();
        x.weigh(0, 0, 3);
        due.is("14: three of which one", x.drops(0, 4, 500, 500, 500), 0);
        due.is("15: least of base 0, 1, 2", x.drop(1) * 100 + x.drop(2) * 10 + x.drop(3), 3);
        x.batch();
        x.weigh(1, 3, 99);
        due.is("14: three, only one of base 3 left", x.drops(0, 4, 500, 500, 500), 0);
        due.is("15: then two of base 2", x.drop(1) * 100 + x.drop(2) * 10 + x.drop(3), 21);
        x.weigh(1, 2, 99);
        due.is("14: three, one of 3, one of 2", x.drops(0, 4, 500, 500, 500), 0);
        due.is("15: then one of base 1", x.drop(1) * 100 + x.drop(2) * 10 + x.drop(3), 111);
    }

    private static void dropsOfSeveralBases() {
        ColourWorks x = new ColourWorks();
        for (int base = 0; base < 3; base++) {
            x.base(0, 10);
            x.band(base, base, 10, 10);
            x.lot(base, 100, 9);
        }
        x.batch();
        x.weigh(0, 1, 2);
        due.is("14: a third of each", x.drops(0, 8, 333, 333, 333), 0);
        due.is("15: two of base 0 and of base 2", x.drop(0) * 100 + x.drop(1) * 10 + x.drop(2), 202);
        due.is("14: of base 0 more", x.drops(0, 8, 600, 200, 200), 0);
        due.is("15: six of base 0, two of base 2", x.drop(0) * 100 + x.drop(1) * 10 + x.drop(2), 602);
        due.is("14: of base 0 alone", x.drops(0, 1, 333, 666, 0), 0);
        due.is("15: one", x.drop(0) * 100 + x.drop(1) * 10 + x.drop(2), 100);
    }

    private static void dropsByEachBand() {
        for (int band = 0; band < 3; band++) {
            ColourWorks x = new ColourWorks();
            x.base(10, 10);
            x.base(10, 10);
            x.band(1, band, 30, 10);
            x.lot(0, 100, 9);
            x.lot(1, 100, 9);
            x.batch();
            x.weigh(0, 0, 4);
            int[] aim = {1000, 1000, 1000};
            aim[band] = 2000;
            due.is("14: by band " + band, x.drops(0, 8, aim[0], aim[1], aim[2]), 0);
            due.is("15: four for band " + band, x.drop(1), 4);
        }
    }

    /** Eight of base 0 and eight of base 7 are the farthest apart of all that can be tried. */
    private static void dropsOfAllEight() {
        ColourWorks x = new ColourWorks();
        for (int base = 0; base < 8; base++) {
            x.base(base == 0 ? 1000 : base == 7 ? 0 : 500, 500);
            x.lot(base, 20, 9);
        }
        x.batch();
        x.weigh(0, 3, 8);
        due.is("14: as dark as may be", x.drops(0, 8, 2000, 2000, 2000), 500);
        due.is("15: eight of base 0", x.drop(0), 8);
        due.is("14: as light as may be", x.drops(0, 8, 0, 0, 0), 500);
        due.is("15: eight of base 7", x.drop(7), 8);
        due.is("16: in", x.dropIn(0), 16);
        due.is("17: eight", x.amount(0, 7), 8);
    }

    private static void dropsWithinStockAndRoom() {
        ColourWorks x = new ColourWorks();
        x.base(0, 10);
        x.base(10, 10);
        x.batch();
        x.lot(0, 20000, 9);
        x.lot(1, 2, 9);
        x.lot(1, 3, 0);
        x.weigh(0, 0, 5);
        due.is("14: five are there", x.drops(0, 8, 500, 500, 500), 0);
        due.is("15: five", x.drop(1), 5);
        x.day(1);
        due.is("14: three ended", x.drops(0, 8, 500, 500, 500), 500 - 2000 / 7);
        due.is("15: two", x.drop(1), 2);
        x.lot(1, 100, 9);
        x.weigh(0, 0, 19989);
        due.is("14: room for six", x.drops(0, 8, MOST, MOST, MOST), MOST);
        due.is("15: cut away, so none", x.drop(1), 0);
        x.band(1, 0, 1000, 0);
        x.band(1, 1, 1000, 0);
        x.band(1, 2, 1000, 0);
        due.is("14: room for six still", x.drops(0, 8, MOST, MOST, MOST), MOST - 6000000 / 199940);
        due.is("15: six", x.drop(1), 6);
        due.is("16: to the edge", x.dropIn(0), 20000);
        due.is("14: no room", x.drops(0, 8, MOST, MOST, MOST), MOST - 30);
        due.is("15: none", x.drop(1), 0);
    }

    private static void drop() {
        ColourWorks x = new ColourWorks();
        due.is("15: no base", x.drop(0), UNKNOWN);
        x.base(0, 10);
        due.is("15: without", x.drop(0), 0);
        due.is("15: below", x.drop(-1), UNKNOWN);
        due.is("15: above", x.drop(1), UNKNOWN);
        due.is("15: far above", x.drop(8), UNKNOWN);
        x.base(10, 10);
        x.batch();
        x.lot(0, 100, 9);
        x.lot(1, 100, 9);
        x.weigh(0, 0, 2);
        x.drops(0, 8, 500, 500, 500);
        x.base(10, 10);
        due.is("15: a base that came later", x.drop(2), 0);
        x.drops(0, 9, 0, 0, 0);
        x.drops(1, 8, 0, 0, 0);
        due.is("15: a refused call changes nothing", x.drop(1), 2);
        x.weigh(0, 1, 2);
        due.is("15: they stay", x.drop(1), 2);
    }

    private static void dropIn() {
        ColourWorks x = new ColourWorks();
        x.base(0, 10);
        x.base(10, 10);
        x.batch();
        x.batch();
        x.lot(0, 100, 9);
        x.lot(1, 5, 9);
        x.lot(1, 5, 8);
        x.weigh(0, 0, 3);
        due.is("16: none were found", x.dropIn(0), NOT);
        due.is("16: unknown ahead of not", x.dropIn(2), UNKNOWN);
        due.is("14: three", x.drops(0, 8, 500, 500, 500), 0);
        due.is("16: below", x.dropIn(-1), UNKNOWN);
        due.is("16: above", x.dropIn(2), UNKNOWN);
        due.is("16: in", x.dropIn(0), 6);
        due.is("16: the lot of the least last day", x.left(2), 2);
        due.is("16: the later one isn't in it", x.recall(1, 1), 0);
        due.is("15: they stay told", x.drop(1), 3);
        due.is("16: into another one", x.dropIn(1), 3);
        due.is("16: of two lots", x.recall(1, 1) * 10 + x.recall(2, 1), 12);
        due.is("16: again", x.dropIn(0), 9);
        due.is("16: short", x.dropIn(0), SHORT);
        due.is("16: nothing changed", x.may(1), 1);
        x.pour(0, 0);
        due.is("16: not ahead of short", x.dropIn(0), NOT);
        x.lot(1, 5, 9);
        x.lot(0, 20000, 9);
        due.is("16: nearly full", x.weigh(1, 0, 19996), 19999);
        due.is("16: full", x.dropIn(1), FULL);
        due.is("16: nothing came", x.amount(1, 1), 3);
    }

    private static void dropInOfNothing() {
        ColourWorks x = new ColourWorks();
        x.base(1, 1);
        x.batch();
        x.batch();
        x.lot(0, 9, 9);
        x.weigh(0, 0, 5);
        due.is("14: it fits", x.drops(0, 8, 1000, 1000, 1000), 0);
        due.is("16: drops of no units", x.dropIn(0), 5);
        due.is("16: into one of nothing", x.dropIn(1), 0);
        due.is("16: no lot came", x.recall(0, 1), 1);
        due.is("18: it is still of nothing", x.shade(1, 0), NOT);
    }
}
