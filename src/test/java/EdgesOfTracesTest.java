/** The boundary cases of promises 27 to 29: which batches and lots a drum tells of. LimitsTest has those of single numbers. */
public final class EdgesOfTracesTest {
    private static final int UNKNOWN = -2;
    private static final Due due = new Due();

    public static void main(String[] args) {
        lotOfWhichNoUnitCame();
        batchPouredBehindADrum();
        lotsOfAStainAreGone();
        firstAndLastLot();
        firstAndLastBatch();
        allLotsAndBatches();
        lotsOfManyPlaces();
        drumOfTheDay();
        richIsRich();
        due.end();
    }

    private static void lotOfWhichNoUnitCame() {
        ColourWorks x = new ColourWorks();
        x.base(1, 1);
        x.lot(0, 5, 1);
        x.lot(0, 5, 2);
        x.lot(0, 5, 3);
        x.batch();
        x.weigh(0, 0, 6);
        x.pour(0, 0);
        x.fill(0, 6);
        int[] inside = {1, 1, 0};
        for (int lot = 0; lot < 3; lot++) {
            due.is("28: lot " + lot, x.inDrum(0, true, lot), inside[lot]);
            due.is("29: lot " + lot, x.recall(lot, 0), inside[lot]);
        }
        due.is("27: two lots", x.drum(0, 4), 2);
        due.is("28: no fourth lot", x.inDrum(0, true, 3), UNKNOWN);
        due.is("28: no second batch", x.inDrum(0, false, 1), UNKNOWN);
        due.is("28: no second drum", x.inDrum(1, true, 0), UNKNOWN);
        x.lot(0, 5, 4);
        x.batch();
        due.is("28: a lot that came later", x.inDrum(0, true, 3), 0);
        due.is("28: a batch that came later", x.inDrum(0, false, 1), 0);
    }

    /** Batch i is of lot i, one unit each. */
    private static ColourWorks oneEach(int n) {
        ColourWorks x = new ColourWorks();
        x.base(1, 1);
        for (int i = 0; i < n; i++) {
            x.lot(0, 1, 5);
        }
        for (int i = 0; i < n; i++) {
            x.weigh(x.batch(), 0, 1);
        }
        return x;
    }

    private static void batchPouredBehindADrum() {
        ColourWorks x = oneEach(4);
        x.pour(0, 0);
        x.pour(1, 0);
        x.fill(0, 1);
        x.pour(2, 0);
        x.fill(0, 1);
        for (int drum = 0; drum < 2; drum++) {
            due.is("27: both batches, though of one unit", x.drum(drum, 3), 2);
            due.is("27: both lots, though of one unit", x.drum(drum, 4), 2);
            due.is("28: a refused batch is in none", x.inDrum(drum, false, 2), 0);
            due.is("28: nor its lot", x.inDrum(drum, true, 2), 0);
        }
        due.is("29: its batch is open", x.recall(2, 1), 1);
    }

    private static void lotsOfAStainAreGone() {
        ColourWorks x = oneEach(4);
        x.pour(0, 0);
        x.fill(0, 1);
        x.pour(1, 0);
        due.is("29: the lot of the stain is in no tank", x.recall(0, 2), 0);
        due.is("29: that which was poured on it is", x.recall(1, 2), 1);
        x.fill(0, 1);
        due.is("27: one batch", x.drum(1, 3), 1);
        due.is("27: one lot", x.drum(1, 4), 1);
        due.is("28: the batch of the stain", x.inDrum(1, false, 0), 0);
        due.is("28: the lot of the stain", x.inDrum(1, true, 0), 0);
        x.clean(0);
        x.pour(2, 0);
        x.fill(0, 1);
        due.is("28: nor behind cleaning", x.inDrum(2, true, 1), 0);
        due.is("27: one batch behind cleaning", x.drum(2, 3), 1);
    }

    private static void firstAndLastLot() {
        ColourWorks x = new ColourWorks();
        x.base(1, 1);
        for (int i = 0; i < 40; i++) {
            x.lot(0, 1, i == 39 ? 0 : i == 0 ? 1 : 5);
        }
        x.batch();
        x.weigh(0, 0, 2);
        x.pour(0, 0);
        due.is("29: the last lot in a tank", x.recall(39, 2), 1);
        x.fill(0, 1);
        int[] lots = {0, 1, 7, 8, 31, 32, 38, 39};
        for (int lot : lots) {
            int inside = lot == 0 || lot == 39 ? 1 : 0;
            due.is("28: lot " + lot, x.inDrum(0, true, lot), inside);
            due.is("29: lot " + lot, x.recall(lot, 0), inside);
        }
        due.is("27: two lots", x.drum(0, 4), 2);
        due.is("28: no 41st lot", x.inDrum(0, true, 40), UNKNOWN);
    }

    private static void firstAndLastBatch() {
        ColourWorks x = oneEach(24);
        x.pour(0, 0);
        x.pour(23, 0);
        x.fill(0, 2);
        for (int batch = 0; batch < 24; batch++) {
            due.is("28: batch " + batch, x.inDrum(0, false, batch), batch == 0 || batch == 23 ? 1 : 0);
        }
        due.is("27: two batches", x.drum(0, 3), 2);
        due.is("28: no 25th batch", x.inDrum(0, false, 24), UNKNOWN);
        due.is("29: the last batch isn't open", x.recall(23, 1), 0);
        due.is("29: the one ahead of it is", x.recall(22, 1), 1);
    }

    private static void allLotsAndBatches() {
        ColourWorks x = oneEach(24);
        for (int i = 24; i < 40; i++) {
            x.lot(0, 1, 5);
        }
        x.weigh(0, 0, 16);
        for (int batch = 0; batch < 24; batch++) {
            x.pour(batch, 4);
        }
        due.is("25: all is in it", x.tank(4, 0), 40);
        x.fill(4, 1);
        due.is("27: all batches", x.drum(0, 3), 24);
        due.is("27: all lots", x.drum(0, 4), 40);
        due.is("27: the last tank", x.drum(0, 1), 4);
    }

    private static void lotsOfManyPlaces() {
        ColourWorks x = new ColourWorks();
        x.base(1, 1);
        x.lot(0, 100, 5);
        for (int i = 0; i < 24; i++) {
            x.weigh(x.batch(), 0, 1);
        }
        due.is("29: all batches", x.recall(0, 1), 24);
        for (int tank = 0; tank < 5; tank++) {
            x.pour(tank, tank);
        }
        due.is("29: all batches but five", x.recall(0, 1), 19);
        due.is("29: all tanks", x.recall(0, 2), 5);
        x.fill(4, 1);
        due.is("29: all tanks but the last", x.recall(0, 2), 4);
        due.is("29: a drum", x.recall(0, 0), 1);
    }

    private static void drumOfTheDay() {
        ColourWorks x = oneEach(3);
        x.pour(0, 0);
        x.pour(1, 0);
        x.fill(0, 1);
        x.day(1000);
        x.fill(0, 1);
        due.is("27: on day 0", x.drum(0, 2), 0);
        due.is("27: on day 1000", x.drum(1, 2), 1000);
        x.day(1);
        due.is("27: that day stays", x.drum(1, 2), 1000);
    }

    /** The other tests lean on what Twins.rich says of itself. */
    private static void richIsRich() {
        ColourWorks x = new ColourWorks();
        Twins.rich(x);
        int[][] tanks = {{0, 1, 0}, {100, 0, 0}, {30, 0, 0}, {0, 0, 1}, {0, 1, 0}};
        for (int i = 0; i < 15; i++) {
            due.is("rich: tank " + i / 3 + ", " + i % 3, x.tank(i / 3, i % 3), tanks[i / 3][i % 3]);
        }
        int[] counts = {3, 5, 3, 7, 3, 3, 2, 1};
        for (int what = 0; what < 8; what++) {
            due.is("rich: count " + what, x.count(what), counts[what]);
        }
        due.is("rich: drops were found", x.drop(0) + x.drop(1) + x.drop(2) > 0 ? 1 : 0, 1);
        due.is("rich: a plan was made", x.planned(2) >= 0 ? 1 : 0, 1);
    }
}
