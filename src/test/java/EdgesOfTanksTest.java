/** The boundary cases of promises 20 to 29; LimitsTest has those of single numbers. */
public final class EdgesOfTanksTest {
    private static final int UNKNOWN = -2, OUTSIDE = -3, NOT = -4, FULL = -6;
    private static final int MOST = 1000000;
    private static final Due due = new Due();
    private static final Twins twins = new Twins(due);

    public static void main(String[] args) {
        fiveTanks();
        holdsAtTheEdges();
        limitAtTheEdges();
        roomInAClean();
        roomBesideOthers();
        roomOnAStain();
        likeUpToTheLimit();
        limitOfNone();
        limitOfAll();
        likeWhatIsInIt();
        whatWasInItIsGone();
        noDrumSinceTheFirst();
        notBelowTheStain();
        pourRefusedInOrder();
        cleanAtTheEdges();
        fillOneAndThousand();
        fillToTheLastUnit();
        hundredDrums();
        stainStaysAsItWas();
        due.end();
    }

    private static void fiveTanks() {
        ColourWorks x = new ColourWorks();
        for (int tank = 0; tank < 5; tank++) {
            due.is("25: clean at first", x.tank(tank, 1), 1);
            due.is("20: holds 1000 at first", x.holds(tank, 1 + tank), 1000);
        }
        for (int tank = 0; tank < 5; tank++) {
            due.is("25: each holds its own", x.tank(tank, 3), 1 + tank);
        }
        due.is("25: no sixth tank", x.tank(5, 0), UNKNOWN);
    }

    /** Bases 0 and 1 have shade 1000 and 2000, and batch i has units[i] of base 0. */
    private static void works(ColourWorks x, int... units) {
        x.base(10, 10);
        x.base(20, 10);
        x.lot(0, 20000, 9);
        x.lot(0, 20000, 9);
        x.lot(1, 20000, 9);
        for (int n : units) {
            x.weigh(x.batch(), 0, n);
        }
    }

    private static void withHundred(ColourWorks x) {
        works(x, 100);
        x.pour(0, 0);
    }

    private static void holdsAtTheEdges() {
        Twins.Steps before = EdgesOfTanksTest::withHundred;
        twins.answers("20: one", before, x -> x.holds(1, 1), 1000);
        twins.answers("20: 60000", before, x -> x.holds(1, 60000), 1000);
        twins.refused("20: 0", before, x -> x.holds(1, 0), OUTSIDE);
        twins.refused("20: 60001", before, x -> x.holds(1, 60001), OUTSIDE);
        twins.answers("20: one more than is in it", before, x -> x.holds(0, 101), 1000);
        twins.answers("20: what is in it", before, x -> x.holds(0, 100), 1000);
        twins.refused("20: one less than is in it", before, x -> x.holds(0, 99), NOT);
        twins.refused("20: outside ahead of not", before, x -> x.holds(0, 0), OUTSIDE);
        twins.refused("20: unknown ahead of outside", before, x -> x.holds(5, 0), UNKNOWN);
        Twins.Steps drawn = x -> {
            withHundred(x);
            x.fill(0, 70);
        };
        twins.answers("20: what a drum left in it", drawn, x -> x.holds(0, 30), 1000);
        twins.refused("20: one less than a drum left", drawn, x -> x.holds(0, 29), NOT);
        twins.answers("20: a stained one has nothing in it", x -> {
            withHundred(x);
            x.fill(0, 100);
        }, x -> x.holds(0, 1), 1000);
    }

    private static void limitAtTheEdges() {
        ColourWorks x = new ColourWorks();
        due.is("21: 10 at first", x.limit(0), 10);
        due.is("21: to the most", x.limit(MOST), 0);
        due.is("21: one above", x.limit(MOST + 1), OUTSIDE);
        due.is("21: one below", x.limit(-1), OUTSIDE);
        due.is("21: it was the most still", x.limit(1), MOST);
    }

    private static void roomInAClean() {
        twins.answers("22: 999 into 1000", x -> works(x, 999), x -> x.pour(0, 4), 999);
        twins.answers("22: 1000 into 1000", x -> works(x, 1000), x -> x.pour(0, 4), 1000);
        twins.refused("22: 1001 into 1000", x -> works(x, 1001), x -> x.pour(0, 4), FULL);
        Twins.Steps great = x -> {
            works(x, 20000, 1);
            x.holds(4, 19999);
            x.holds(3, 1);
        };
        twins.refused("22: 20000 into 19999", great, x -> x.pour(0, 4), FULL);
        twins.answers("22: one into one", great, x -> x.pour(1, 3), 1);
        twins.answers("22: 20000 into 20000", x -> {
            great.on(x);
            x.holds(4, 20000);
        }, x -> x.pour(0, 4), 20000);
    }

    private static void threeGreat(ColourWorks x, int last) {
        works(x, 20000, 19999);
        x.lot(0, 20000, 9);
        x.weigh(x.batch(), 0, last);
        x.holds(2, 60000);
        x.pour(0, 2);
        x.pour(1, 2);
    }

    private static void roomBesideOthers() {
        Twins.Steps before = x -> {
            works(x, 600, 399, 400, 401, 1);
            x.pour(0, 0);
        };
        twins.answers("22: to 999", before, x -> x.pour(1, 0), 999);
        twins.answers("22: to 1000", before, x -> x.pour(2, 0), 1000);
        twins.refused("22: to 1001", before, x -> x.pour(3, 0), FULL);
        twins.refused("22: one unit beside 1000", x -> {
            before.on(x);
            x.pour(2, 0);
        }, x -> x.pour(4, 0), FULL);
        twins.answers("22: to 59999", x -> threeGreat(x, 20000), x -> x.pour(2, 2), 59999);
        twins.answers("22: to 60000", x -> {
            threeGreat(x, 20000);
            x.weigh(x.batch(), 0, 1);
            x.pour(2, 2);
        }, x -> x.pour(3, 2), 60000);
        ColourWorks x = new ColourWorks();
        threeGreat(x, 20000);
        x.pour(2, 2);
        due.is("26: of 59999 units", x.tankShade(2, 0), 1000);
        x.band(0, 0, 1000, 1000);
        x.band(0, 1, 1000, 1);
        due.is("26: of the greatest sums", x.tankShade(2, 0), 1000);
        due.is("26: of the greatest shade", x.tankShade(2, 1), MOST);
    }

    private static void roomOnAStain() {
        Twins.Steps before = x -> {
            works(x, 50, 700, 701);
            x.pour(0, 0);
            x.fill(0, 50);
            x.holds(0, 700);
        };
        twins.answers("22: just room on a stain", before, x -> x.pour(1, 0), 700);
        twins.refused("22: one too many on a stain", before, x -> x.pour(2, 0), FULL);
    }

    /** In a tank is shade 1000; batch 1 has in one band the shade 1000 + more, in the others 1000. */
    private static void besideThousand(ColourWorks x, int band, int more) {
        works(x, 100);
        x.pour(0, 0);
        x.base(1000, 1000);
        x.band(2, band, 500 + more / 2, 500);
        x.lot(2, 10, 9);
        x.weigh(x.batch(), 2, 10);
    }

    private static void likeUpToTheLimit() {
        for (int band = 0; band < 3; band++) {
            int at = band;
            twins.answers("22: 8 above, band " + band, x -> besideThousand(x, at, 8), x -> x.pour(1, 0), 110);
            twins.answers("22: 10 above, band " + band, x -> besideThousand(x, at, 10), x -> x.pour(1, 0), 110);
            twins.refused("22: 12 above, band " + band, x -> besideThousand(x, at, 12), x -> x.pour(1, 0), NOT);
            twins.answers("22: 8 below, band " + band, x -> besideThousand(x, at, -8), x -> x.pour(1, 0), 110);
            twins.answers("22: 10 below, band " + band, x -> besideThousand(x, at, -10), x -> x.pour(1, 0), 110);
            twins.refused("22: 12 below, band " + band, x -> besideThousand(x, at, -12), x -> x.pour(1, 0), NOT);
            twins.refused("22: one above the limit, band " + band, x -> {
                besideThousand(x, at, 12);
                x.limit(11);
            }, x -> x.pour(1, 0), NOT);
            twins.answers("22: just the limit, band " + band, x -> {
                besideThousand(x, at, 12);
                x.limit(12);
            }, x -> x.pour(1, 0), 110);
        }
    }

    private static void limitOfNone() {
        twins.answers("22: alike, limit 0", x -> {
            besideThousand(x, 1, 0);
            x.limit(0);
        }, x -> x.pour(1, 0), 110);
        twins.refused("22: nearly alike, limit 0", x -> {
            besideThousand(x, 1, 2);
            x.limit(0);
        }, x -> x.pour(1, 0), NOT);
    }

    private static void farApart(ColourWorks x) {
        works(x, 100);
        x.band(0, 1, 0, 10);
        x.band(1, 1, 10, 0);
        x.pour(0, 0);
        x.weigh(x.batch(), 1, 10);
    }

    private static void limitOfAll() {
        twins.refused("22: 1000000 apart, one above the limit", x -> {
            farApart(x);
            x.limit(MOST - 1);
        }, x -> x.pour(1, 0), NOT);
        twins.answers("22: 1000000 apart, just the limit", x -> {
            farApart(x);
            x.limit(MOST);
        }, x -> x.pour(1, 0), 110);
    }

    /** The shade of all that is in the tank counts, not that of the first batch or of the last one. */
    private static void likeWhatIsInIt() {
        Twins.Steps before = x -> {
            works(x, 100);
            x.weigh(x.batch(), 1, 100);
            x.limit(1000);
            x.pour(0, 0);
            x.pour(1, 0);
            x.weigh(x.batch(), 0, 10);
            x.weigh(x.batch(), 1, 10);
        };
        for (int batch = 2; batch < 4; batch++) {
            int number = batch;
            twins.refused("22: 500 from both together, limit 499", x -> {
                before.on(x);
                x.limit(499);
            }, x -> x.pour(number, 0), NOT);
            twins.answers("22: 500 from both together, limit 500", x -> {
                before.on(x);
                x.limit(500);
            }, x -> x.pour(number, 0), 210);
        }
    }

    /** On a stain and behind cleaning, what is in the tank is of the new batches alone. */
    private static void whatWasInItIsGone() {
        for (int cleanings = 0; cleanings < 2; cleanings++) {
            ColourWorks x = new ColourWorks();
            works(x, 100);
            x.pour(0, 0);
            x.fill(0, 100);
            if (cleanings > 0) {
                x.clean(0);
            }
            x.weigh(x.batch(), 1, 50);
            due.is("22: units of the new one alone", x.pour(1, 0), 50);
            due.is("26: shade of the new one alone", x.tankShade(0, 0), 2000);
            x.weigh(x.batch(), 0, 50);
            x.limit(999);
            due.is("22: unlike the new one", x.pour(2, 0), NOT);
            x.limit(1000);
            due.is("22: like the new one", x.pour(2, 0), 100);
            due.is("26: shade of both new ones", x.tankShade(0, 0), 1500);
            x.fill(0, 100);
            due.is("26: stain of both new ones", x.tankShade(0, 0), 1500);
        }
    }

    private static void noDrumSinceTheFirst() {
        Twins.Steps before = x -> {
            works(x, 50, 50, 50, 50, 50);
            x.pour(0, 0);
            x.pour(1, 0);
        };
        twins.answers("22: no drum yet", before, x -> x.pour(2, 0), 150);
        twins.refused("22: a drum of one unit", x -> {
            before.on(x);
            x.fill(0, 1);
        }, x -> x.pour(2, 0), NOT);
        twins.refused("22: all but one unit", x -> {
            before.on(x);
            x.fill(0, 99);
        }, x -> x.pour(2, 0), NOT);
        twins.answers("22: a refused drum is none", x -> {
            before.on(x);
            x.fill(0, 101);
        }, x -> x.pour(2, 0), 150);
        twins.answers("22: a drum of another tank", x -> {
            before.on(x);
            x.pour(2, 1);
            x.fill(1, 1);
        }, x -> x.pour(3, 0), 150);
        twins.answers("22: drums ahead of the first on the stain", x -> {
            before.on(x);
            x.fill(0, 100);
            x.pour(2, 0);
        }, x -> x.pour(3, 0), 100);
        twins.answers("22: drums ahead of the cleaning", x -> {
            before.on(x);
            x.fill(0, 100);
            x.clean(0);
            x.pour(2, 0);
        }, x -> x.pour(3, 0), 100);
    }

    /** A tank is stained with 1000; batch 1 has in one band the shade 1000 + more, in the others much more. */
    private static void onThousand(ColourWorks x, int band, int more) {
        works(x, 100);
        x.pour(0, 0);
        x.fill(0, 100);
        x.base(1000, 10);
        x.band(2, band, 500 + more / 2, 500);
        x.lot(2, 10, 9);
        x.weigh(x.batch(), 2, 10);
    }

    private static void notBelowTheStain() {
        for (int band = 0; band < 3; band++) {
            int at = band;
            twins.answers("22: above the stain, band " + band, x -> onThousand(x, at, 2), x -> x.pour(1, 0), 10);
            twins.answers("22: like the stain, band " + band, x -> onThousand(x, at, 0), x -> x.pour(1, 0), 10);
            twins.refused("22: below the stain, band " + band, x -> onThousand(x, at, -2), x -> x.pour(1, 0), NOT);
            twins.answers("22: below it into a clean one", x -> {
                onThousand(x, at, -2);
                x.clean(0);
            }, x -> x.pour(1, 0), 10);
            twins.refused("22: the limit doesn't count there", x -> {
                onThousand(x, at, -2);
                x.limit(MOST);
            }, x -> x.pour(1, 0), NOT);
        }
    }

    private static void pourRefusedInOrder() {
        Twins.Steps before = x -> {
            works(x, 100, 700);
            x.weigh(x.batch(), 1, 950);
            x.batch();
            x.weigh(x.batch(), 0, 950);
            x.pour(0, 0);
            x.holds(1, 700);
            x.pour(1, 1);
        };
        twins.refused("22: not open, no room", before, x -> x.pour(1, 1), NOT);
        twins.refused("22: not open, a clean one", before, x -> x.pour(0, 2), NOT);
        twins.refused("22: of nothing, a clean one", before, x -> x.pour(3, 2), NOT);
        twins.refused("22: of nothing, a full one", before, x -> x.pour(3, 1), NOT);
        twins.refused("22: unlike ahead of no room", before, x -> x.pour(2, 0), NOT);
        twins.refused("22: alike, no room", before, x -> x.pour(4, 0), FULL);
        twins.refused("22: tank unknown ahead of not open", before, x -> x.pour(0, 5), UNKNOWN);
        twins.refused("22: tank unknown ahead of of nothing", before, x -> x.pour(3, -1), UNKNOWN);
        twins.refused("22: batch unknown ahead of no room", before, x -> x.pour(5, 1), UNKNOWN);
        twins.refused("22: a drum was filled ahead of no room", x -> {
            before.on(x);
            x.fill(0, 1);
        }, x -> x.pour(4, 0), NOT);
        twins.refused("22: below the stain ahead of no room", x -> {
            before.on(x);
            x.pour(2, 2);
            x.fill(2, 950);
            x.holds(2, 900);
        }, x -> x.pour(4, 2), NOT);
    }

    private static void cleanAtTheEdges() {
        twins.answers("23: clean at first", x -> works(x, 5), x -> x.clean(0), 0);
        twins.answers("35: that is no cleaning", x -> x.clean(0), x -> x.count(7), 0);
        twins.refused("23: with all units", EdgesOfTanksTest::withHundred, x -> x.clean(0), NOT);
        twins.refused("23: with one unit", x -> {
            withHundred(x);
            x.fill(0, 99);
        }, x -> x.clean(0), NOT);
        Twins.Steps stained = x -> {
            withHundred(x);
            x.fill(0, 100);
        };
        twins.answers("23: stained", stained, x -> x.clean(0), 1);
        ColourWorks x = new ColourWorks();
        stained.on(x);
        x.clean(0);
        due.is("23: clean already", x.clean(0), 0);
        due.is("35: once", x.count(7), 1);
        due.is("25: clean", x.tank(0, 1), 1);
        due.is("25: not stained", x.tank(0, 2), 0);
        due.is("26: no shade", x.tankShade(0, 0), NOT);
        twins.answers("35: what is poured on a stain is no cleaning", y -> {
            stained.on(y);
            y.weigh(y.batch(), 0, 5);
            y.pour(1, 0);
        }, y -> y.count(7), 0);
    }

    private static void withAll(ColourWorks x, int units) {
        works(x, units);
        x.holds(0, 20000);
        x.pour(0, 0);
    }

    private static void fillOneAndThousand() {
        twins.answers("24: one", x -> withAll(x, 5000), x -> x.fill(0, 1), 0);
        twins.answers("24: 1000", x -> withAll(x, 5000), x -> x.fill(0, 1000), 0);
        twins.refused("24: 1001", x -> withAll(x, 5000), x -> x.fill(0, 1001), OUTSIDE);
        twins.refused("24: 0", x -> withAll(x, 5000), x -> x.fill(0, 0), OUTSIDE);
        twins.refused("24: one of nothing", x -> withAll(x, 5000), x -> x.fill(1, 1), NOT);
        twins.answers("24: all but one", x -> withAll(x, 1000), x -> x.fill(0, 999), 0);
        twins.answers("24: all", x -> withAll(x, 999), x -> x.fill(0, 999), 0);
        twins.refused("24: one more than all", x -> withAll(x, 999), x -> x.fill(0, 1000), NOT);
        twins.refused("24: outside ahead of not so many", x -> withAll(x, 999), x -> x.fill(0, 1001), OUTSIDE);
        twins.refused("24: unknown ahead of outside", x -> withAll(x, 999), x -> x.fill(5, 1001), UNKNOWN);
        twins.refused("24: one of a stained one", x -> {
            withAll(x, 50);
            x.fill(0, 50);
        }, x -> x.fill(0, 1), NOT);
    }

    private static void states(String what, ColourWorks x, int units, int clean, int stained) {
        due.is("25: units " + what, x.tank(0, 0), units);
        due.is("25: clean " + what, x.tank(0, 1), clean);
        due.is("25: stained " + what, x.tank(0, 2), stained);
    }

    private static void fillToTheLastUnit() {
        ColourWorks x = new ColourWorks();
        works(x, 50, 30);
        states("at first", x, 0, 1, 0);
        x.pour(0, 0);
        states("with all units", x, 50, 0, 0);
        x.fill(0, 49);
        states("with one unit", x, 1, 0, 0);
        due.is("29: a tank with one unit", x.recall(0, 2), 1);
        x.fill(0, 1);
        states("with none", x, 0, 0, 1);
        due.is("29: a tank without units", x.recall(0, 2), 0);
        due.is("26: the stain", x.tankShade(0, 0), 1000);
        x.pour(1, 0);
        states("with units on the stain", x, 30, 0, 0);
        x.fill(0, 30);
        x.clean(0);
        states("behind cleaning", x, 0, 1, 0);
        due.is("27: batches of the first", x.drum(0, 3), 1);
        due.is("27: batches of the third", x.drum(2, 3), 1);
        due.is("28: the first batch isn't in the third drum", x.inDrum(2, false, 0), 0);
        due.is("28: the second batch is", x.inDrum(2, false, 1), 1);
    }

    private static void drums(ColourWorks x, int n) {
        works(x, 100 + n, 9);
        x.pour(0, 0);
        x.pour(1, 1);
        for (int i = 0; i < n; i++) {
            x.fill(0, 1);
        }
    }

    private static void hundredDrums() {
        twins.answers("24: the 99th", x -> drums(x, 98), x -> x.fill(0, 1), 98);
        twins.answers("24: the 100th", x -> drums(x, 99), x -> x.fill(0, 1), 99);
        twins.refused("24: the 101st", x -> drums(x, 100), x -> x.fill(0, 1), FULL);
        twins.refused("24: the 101st of all that is left", x -> drums(x, 100), x -> x.fill(0, 100), FULL);
        twins.refused("24: the 101st of another tank", x -> drums(x, 100), x -> x.fill(1, 9), FULL);
        twins.refused("24: not so many ahead of full", x -> drums(x, 100), x -> x.fill(0, 101), NOT);
        twins.refused("24: a clean one ahead of full", x -> drums(x, 100), x -> x.fill(2, 1), NOT);
        twins.refused("24: outside ahead of full", x -> drums(x, 100), x -> x.fill(0, 0), OUTSIDE);
        twins.refused("24: unknown ahead of full", x -> drums(x, 100), x -> x.fill(-1, 1), UNKNOWN);
        ColourWorks x = new ColourWorks();
        drums(x, 99);
        x.day(7);
        x.fill(1, 8);
        int[] want = {8, 1, 7, 1, 1};
        for (int what = 0; what < 5; what++) {
            due.is("27: the 100th, " + what, x.drum(99, what), want[what]);
        }
        due.is("27: no 101st", x.drum(100, 0), UNKNOWN);
        due.is("29: in all of them", x.recall(0, 0), 100);
    }

    private static void stainStaysAsItWas() {
        ColourWorks x = new ColourWorks();
        works(x, 50, 50);
        x.pour(0, 0);
        x.fill(0, 49);
        x.band(0, 1, 15, 10);
        due.is("26: one unit follows the base", x.tankShade(0, 1), 1500);
        x.fill(0, 1);
        for (int band = 0; band < 3; band++) {
            x.band(0, band, 14, 10);
        }
        int[] stain = {1000, 1500, 1000};
        for (int band = 0; band < 3; band++) {
            due.is("26: the stain as it was, band " + band, x.tankShade(0, band), stain[band]);
        }
        due.is("22: below the stain as it was", x.pour(1, 0), NOT);
        x.band(0, 1, 15, 10);
        due.is("22: like the stain as it was", x.pour(1, 0), 50);
        due.is("26: no stain any more", x.tankShade(0, 0), 1400);
    }
}
