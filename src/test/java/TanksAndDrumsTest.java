/** Promises 20 to 29, and 35's counts of drums and cleanings. */
public final class TanksAndDrumsTest {
    private static final int UNKNOWN = -2, OUTSIDE = -3, NOT = -4, FULL = -6;
    private static final Due due = new Due();

    public static void main(String[] args) {
        holds();
        limit();
        pourRefused();
        pourIntoLike();
        pourByEachBand();
        pourOfOneUnit();
        pourRoom();
        pourOnStain();
        stainStays();
        clean();
        fill();
        fillToTheEdge();
        tank();
        tankShade();
        drum();
        inDrum();
        recall();
        due.end();
    }

    /** Base 0 has shade 1000, base 1 shade 3000, base 2 shade 500; batch i has 100 units of base i % 3. */
    private static ColourWorks works(int batches) {
        ColourWorks x = new ColourWorks();
        x.base(10, 10);
        x.base(30, 10);
        x.base(5, 10);
        for (int base = 0; base < 3; base++) {
            x.lot(base, 20000, 9);
        }
        for (int i = 0; i < batches; i++) {
            x.weigh(x.batch(), i % 3, 100);
        }
        return x;
    }

    private static void holds() {
        ColourWorks x = works(1);
        due.is("20: below", x.holds(-1, 1), UNKNOWN);
        due.is("20: unknown ahead of outside", x.holds(5, 0), UNKNOWN);
        due.is("20: 0", x.holds(0, 0), OUTSIDE);
        due.is("20: above", x.holds(0, 60001), OUTSIDE);
        due.is("20: least", x.holds(0, 1), 1000);
        due.is("20: most", x.holds(0, 60000), 1);
        due.is("20: another tank", x.holds(4, 7), 1000);
        x.pour(0, 0);
        due.is("20: outside ahead of not", x.holds(0, 0), OUTSIDE);
        due.is("20: more in it", x.holds(0, 99), NOT);
        due.is("20: just as much", x.holds(0, 100), 60000);
        x.fill(0, 60);
        due.is("20: less behind a drum", x.holds(0, 40), 100);
        due.is("25: holds", x.tank(0, 3), 40);
    }

    private static void limit() {
        ColourWorks x = new ColourWorks();
        due.is("21: below", x.limit(-1), OUTSIDE);
        due.is("21: above", x.limit(1000001), OUTSIDE);
        due.is("21: least", x.limit(0), 10);
        due.is("21: most", x.limit(1000000), 0);
        due.is("21: back", x.limit(10), 1000000);
    }

    private static void pourRefused() {
        ColourWorks x = works(2);
        x.batch();
        due.is("22: batch below", x.pour(-1, 0), UNKNOWN);
        due.is("22: batch above", x.pour(3, 0), UNKNOWN);
        due.is("22: tank below", x.pour(0, -1), UNKNOWN);
        due.is("22: tank above", x.pour(0, 5), UNKNOWN);
        due.is("22: of nothing", x.pour(2, 0), NOT);
        due.is("22: into a clean one", x.pour(0, 0), 100);
        due.is("22: not open", x.pour(0, 1), NOT);
        due.is("22: not open, the same tank", x.pour(0, 0), NOT);
        due.is("22: unlike", x.pour(1, 0), NOT);
        x.holds(0, 100);
        due.is("22: not ahead of full", x.pour(1, 0), NOT);
        due.is("22: another tank", x.pour(1, 4), 100);
        due.is("17: it keeps its amount", x.amount(1, 1), 100);
    }

    private static void pourIntoLike() {
        ColourWorks x = works(5);
        x.pour(0, 0);
        x.limit(1999);
        due.is("22: one above the limit", x.pour(1, 0), NOT);
        x.limit(2000);
        due.is("22: just the limit", x.pour(1, 0), 200);
        due.is("26: of both together", x.tankShade(0, 0), 2000);
        x.limit(1499);
        due.is("22: below, above the limit", x.pour(2, 0), NOT);
        x.limit(1500);
        due.is("22: below, just the limit", x.pour(2, 0), 300);
        due.is("26: of all three", x.tankShade(0, 1), 1500);
        x.limit(500);
        x.band(0, 2, 11, 10);
        x.band(1, 2, 100, 10);
        due.is("22: one band differs", x.pour(3, 0), NOT);
        x.band(1, 2, 30, 10);
        due.is("22: none differs", x.pour(3, 0), 400);
        x.limit(1000000);
        x.fill(0, 1);
        due.is("22: a drum was filled", x.pour(4, 0), NOT);
        x.fill(0, 399);
        due.is("25: stained", x.tank(0, 2), 1);
        due.is("22: on the stain", x.pour(4, 0), 100);
        x.weigh(x.batch(), 1, 10);
        due.is("22: no drum since the first came", x.pour(5, 0), 110);
    }

    private static void pourByEachBand() {
        for (int band = 0; band < 3; band++) {
            ColourWorks x = works(1);
            x.band(1, 0, 10, 10);
            x.band(1, 1, 10, 10);
            x.band(1, 2, 10, 10);
            x.weigh(x.batch(), 1, 50);
            x.pour(0, 0);
            x.band(1, band, 11, 10);
            x.limit(99);
            due.is("22: unlike in band " + band, x.pour(1, 0), NOT);
            x.fill(0, 100);
            x.band(1, band, 9, 10);
            due.is("22: below the stain in band " + band, x.pour(1, 0), NOT);
            x.band(1, band, 10, 10);
            due.is("22: not below it in band " + band, x.pour(1, 0), 50);
        }
    }

    private static void pourOfOneUnit() {
        ColourWorks x = works(3);
        x.weigh(x.batch(), 0, 1);
        due.is("22: one unit", x.pour(3, 0), 1);
        due.is("29: a tank with one unit", x.recall(0, 2), 1);
        due.is("22: unlike the one", x.pour(1, 0), NOT);
        x.pour(0, 1);
        x.fill(1, 99);
        due.is("25: one is left", x.tank(1, 0), 1);
        due.is("25: not stained yet", x.tank(1, 2), 0);
        due.is("29: it has the lot still", x.recall(0, 2), 2);
        due.is("22: nor to be poured on", x.pour(1, 1), NOT);
    }

    private static void pourRoom() {
        ColourWorks x = works(6);
        x.holds(0, 199);
        x.holds(1, 99);
        due.is("22: no room in a clean one", x.pour(0, 1), FULL);
        due.is("22: in a clean one", x.pour(0, 0), 100);
        due.is("22: no room beside", x.pour(3, 0), FULL);
        due.is("22: nothing changed", x.tank(0, 0), 100);
        x.holds(0, 200);
        due.is("22: just room", x.pour(3, 0), 200);
        x.lot(1, 1000, 9);
        x.weigh(1, 1, 19900);
        due.is("22: a great one", x.pour(1, 2), FULL);
        x.holds(2, 20000);
        due.is("22: into a great one", x.pour(1, 2), 20000);
    }

    private static void pourOnStain() {
        ColourWorks x = works(9);
        x.pour(0, 0);
        x.fill(0, 100);
        due.is("22: below the stain", x.pour(2, 0), NOT);
        due.is("22: like the stain", x.pour(3, 0), 100);
        due.is("25: not stained any more", x.tank(0, 2), 0);
        x.fill(0, 100);
        due.is("22: above the stain", x.pour(1, 0), 100);
        x.fill(0, 100);
        due.is("22: the new stain counts", x.pour(6, 0), NOT);
        x.holds(0, 99);
        due.is("22: no room on the stain", x.pour(4, 0), FULL);
        due.is("25: still stained", x.tank(0, 2), 1);
        x.band(1, 2, 29, 10);
        due.is("22: one band below the stain", x.pour(4, 0), NOT);
        x.clean(0);
        x.holds(0, 1000);
        due.is("22: all go into a clean one", x.pour(8, 0), 100);
        due.is("27: of the last batch alone", x.drum(x.fill(0, 1), 3), 1);
    }

    private static void stainStays() {
        ColourWorks x = works(4);
        x.pour(0, 0);
        x.band(0, 1, 20, 10);
        due.is("26: what is in it follows the base", x.tankShade(0, 1), 2000);
        x.fill(0, 100);
        x.band(0, 1, 50, 10);
        due.is("26: the stain doesn't", x.tankShade(0, 1), 2000);
        due.is("26: nor in another band", x.tankShade(0, 0), 1000);
        x.band(0, 1, 19, 10);
        due.is("22: below the stain as it was", x.pour(3, 0), NOT);
        x.band(0, 1, 20, 10);
        due.is("22: like the stain as it was", x.pour(3, 0), 100);
    }

    private static void clean() {
        ColourWorks x = works(2);
        due.is("23: below", x.clean(-1), UNKNOWN);
        due.is("23: above", x.clean(5), UNKNOWN);
        due.is("23: clean already", x.clean(4), 0);
        x.pour(0, 4);
        due.is("23: it has units", x.clean(4), NOT);
        x.fill(4, 99);
        due.is("23: it has one still", x.clean(4), NOT);
        x.fill(4, 1);
        due.is("35: none was cleaned", x.count(7), 0);
        due.is("23: stained", x.clean(4), 1);
        due.is("25: clean", x.tank(4, 1), 1);
        due.is("25: not stained", x.tank(4, 2), 0);
        due.is("23: again", x.clean(4), 0);
        due.is("35: once", x.count(7), 1);
        due.is("26: no shade", x.tankShade(4, 0), NOT);
        x.pour(1, 4);
        x.fill(4, 100);
        x.clean(4);
        due.is("35: twice", x.count(7), 2);
    }

    private static void fill() {
        ColourWorks x = works(1);
        x.weigh(0, 0, 900);
        due.is("24: below", x.fill(-1, 1), UNKNOWN);
        due.is("24: unknown ahead of outside", x.fill(5, 0), UNKNOWN);
        due.is("24: n 0", x.fill(0, 0), OUTSIDE);
        due.is("24: n above", x.fill(0, 1001), OUTSIDE);
        due.is("24: nothing in it", x.fill(0, 1), NOT);
        x.pour(0, 0);
        due.is("24: one", x.fill(0, 1), 0);
        due.is("24: not so many", x.fill(0, 1000), NOT);
        due.is("25: left", x.tank(0, 0), 999);
        due.is("24: the rest", x.fill(0, 999), 1);
        due.is("25: nothing is left", x.tank(0, 0), 0);
        due.is("24: none of a stained one", x.fill(0, 1), NOT);
        due.is("35: two", x.count(4), 2);
    }

    private static void fillToTheEdge() {
        ColourWorks x = works(1);
        x.weigh(0, 0, 900);
        x.pour(0, 0);
        for (int i = 0; i < 100; i++) {
            due.is("24: drum " + i, x.fill(0, 1), i);
        }
        due.is("24: the 101st", x.fill(0, 1), FULL);
        due.is("24: not ahead of full", x.fill(0, 901), NOT);
        due.is("24: outside ahead of full", x.fill(0, 0), OUTSIDE);
        due.is("25: nothing changed", x.tank(0, 0), 900);
        due.is("35: a hundred", x.count(4), 100);
        due.is("29: in all of them", x.recall(0, 0), 100);
    }

    private static void tank() {
        ColourWorks x = works(1);
        due.is("25: below", x.tank(-1, 0), UNKNOWN);
        due.is("25: unknown ahead of outside", x.tank(5, 4), UNKNOWN);
        due.is("25: what below", x.tank(0, -1), OUTSIDE);
        due.is("25: what above", x.tank(0, 4), OUTSIDE);
        x.pour(0, 3);
        due.is("25: units", x.tank(3, 0), 100);
        due.is("25: not clean", x.tank(3, 1), 0);
        due.is("25: nor stained", x.tank(3, 2), 0);
        x.fill(3, 100);
        due.is("25: stained, not clean", x.tank(3, 1), 0);
        due.is("25: stained", x.tank(3, 2), 1);
        due.is("25: another one is clean", x.tank(2, 1), 1);
    }

    private static void tankShade() {
        ColourWorks x = works(2);
        x.band(1, 2, 7, 10);
        due.is("26: tank below", x.tankShade(-1, 0), UNKNOWN);
        due.is("26: tank above", x.tankShade(5, 0), UNKNOWN);
        due.is("26: band below", x.tankShade(0, -1), UNKNOWN);
        due.is("26: unknown ahead of not", x.tankShade(0, 3), UNKNOWN);
        due.is("26: clean", x.tankShade(0, 0), NOT);
        x.pour(1, 0);
        due.is("26: in band 0", x.tankShade(0, 0), 3000);
        due.is("26: in band 2", x.tankShade(0, 2), 700);
        x.fill(0, 60);
        due.is("26: drums don't change it", x.tankShade(0, 2), 700);
        x.fill(0, 40);
        due.is("26: the stain in band 2", x.tankShade(0, 2), 700);
        x.clean(0);
        due.is("26: clean again", x.tankShade(0, 2), NOT);
    }

    private static void drum() {
        ColourWorks x = works(4);
        due.is("27: none", x.drum(0, 0), UNKNOWN);
        x.limit(1000000);
        x.pour(0, 2);
        x.pour(1, 2);
        x.day(3);
        x.fill(2, 70);
        x.day(2);
        x.fill(2, 130);
        x.pour(3, 1);
        x.fill(1, 20);
        due.is("27: below", x.drum(-1, 0), UNKNOWN);
        due.is("27: unknown ahead of outside", x.drum(3, 5), UNKNOWN);
        due.is("27: what below", x.drum(0, -1), OUTSIDE);
        due.is("27: what above", x.drum(0, 5), OUTSIDE);
        int[][] want = {{70, 2, 3, 2, 2}, {130, 2, 5, 2, 2}, {20, 1, 5, 1, 1}};
        for (int i = 0; i < 3; i++) {
            for (int what = 0; what < 5; what++) {
                due.is("27: drum " + i + ", " + what, x.drum(i, what), want[i][what]);
            }
        }
    }

    private static void inDrum() {
        ColourWorks x = works(4);
        x.limit(1000000);
        x.pour(0, 0);
        x.pour(2, 0);
        x.fill(0, 1);
        due.is("28: drum below", x.inDrum(-1, true, 0), UNKNOWN);
        due.is("28: drum above", x.inDrum(1, true, 0), UNKNOWN);
        due.is("28: lot below", x.inDrum(0, true, -1), UNKNOWN);
        due.is("28: lot above, though a batch is", x.inDrum(0, true, 3), UNKNOWN);
        due.is("28: batch below", x.inDrum(0, false, -1), UNKNOWN);
        due.is("28: batch above", x.inDrum(0, false, 4), UNKNOWN);
        int[] batches = {1, 0, 1, 0};
        int[] lots = {1, 0, 1};
        for (int i = 0; i < 4; i++) {
            due.is("28: batch " + i, x.inDrum(0, false, i), batches[i]);
        }
        for (int i = 0; i < 3; i++) {
            due.is("28: lot " + i, x.inDrum(0, true, i), lots[i]);
        }
        manyLots();
    }

    private static void manyLots() {
        ColourWorks x = new ColourWorks();
        x.base(1, 1);
        for (int i = 0; i < 40; i++) {
            x.lot(0, 1, i % 2 == 0 ? 5 : 6);
        }
        for (int i = 0; i < 24; i++) {
            x.batch();
        }
        x.weigh(23, 0, 20);
        x.weigh(22, 0, 20);
        x.pour(23, 0);
        x.pour(22, 1);
        x.fill(0, 20);
        x.fill(1, 20);
        for (int i = 0; i < 40; i++) {
            due.is("28: lot " + i + " in the first", x.inDrum(0, true, i), 1 - i % 2);
            due.is("28: lot " + i + " in the second", x.inDrum(1, true, i), i % 2);
        }
        due.is("27: twenty lots", x.drum(1, 4), 20);
        due.is("28: batch 23", x.inDrum(0, false, 23), 1);
        due.is("28: batch 22", x.inDrum(0, false, 22), 0);
        due.is("29: lot 39", x.recall(39, 0), 1);
    }

    private static void recall() {
        ColourWorks x = works(7);
        due.is("29: below", x.recall(-1, 0), UNKNOWN);
        due.is("29: unknown ahead of outside", x.recall(3, 3), UNKNOWN);
        due.is("29: way below", x.recall(0, -1), OUTSIDE);
        due.is("29: way above", x.recall(0, 3), OUTSIDE);
        due.is("29: no drum", x.recall(0, 0), 0);
        due.is("29: three open batches", x.recall(0, 1), 3);
        due.is("29: no tank", x.recall(0, 2), 0);
        x.pour(0, 0);
        x.pour(3, 1);
        due.is("29: one open batch", x.recall(0, 1), 1);
        due.is("29: two tanks", x.recall(0, 2), 2);
        x.fill(0, 50);
        due.is("29: a drum", x.recall(0, 0), 1);
        due.is("29: the tank has units still", x.recall(0, 2), 2);
        x.fill(0, 50);
        due.is("29: two drums", x.recall(0, 0), 2);
        due.is("29: a stained tank doesn't count", x.recall(0, 2), 1);
        due.is("29: another lot", x.recall(1, 0) + x.recall(1, 2), 0);
        x.pour(1, 0);
        due.is("29: the tank has another lot now", x.recall(0, 2), 1);
        due.is("29: that lot", x.recall(1, 2), 1);
    }
}
