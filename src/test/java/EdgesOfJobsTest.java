/** The boundary cases of promises 30 to 35; LimitsTest has those of single numbers. */
public final class EdgesOfJobsTest {
    private static final int UNKNOWN = -2, OUTSIDE = -3, FULL = -6;
    private static final Due due = new Due();
    private static final Twins twins = new Twins(due);

    public static void main(String[] args) {
        eightJobs();
        cleaningOfEachTwoHues();
        lateByOne();
        timesUpToItAndWithIt();
        priceOfNoneAndMost();
        cleaningFromTheFirstHue();
        cleaningToItself();
        greatestCost();
        leastNumbersFirst();
        dearerByOne();
        firstPlaceByOneUnitOfTime();
        nextPlaceByTheHueBefore();
        nextPlaceByTheTimesBefore();
        planWithoutJobs();
        plannedPlaces();
        planAsJobsWere();
        idleAtTheEdges();
        countsAtTheEdges();
        due.end();
    }

    private static void jobs(ColourWorks x, int n) {
        for (int i = 0; i < n; i++) {
            x.job(i % 6, 1 + i, 0, 1);
        }
    }

    private static void eightJobs() {
        twins.answers("30: the first", x -> jobs(x, 0), x -> x.job(5, 100, 1000, 100), 0);
        twins.answers("30: the seventh", x -> jobs(x, 6), x -> x.job(0, 1, 0, 0), 6);
        twins.answers("30: the eighth", x -> jobs(x, 7), x -> x.job(0, 1, 0, 0), 7);
        twins.refused("30: the ninth", x -> jobs(x, 8), x -> x.job(0, 1, 0, 0), FULL);
        twins.refused("30: hue unknown ahead of full", x -> jobs(x, 8), x -> x.job(6, 1, 0, 0), UNKNOWN);
        twins.refused("30: time outside ahead of full", x -> jobs(x, 8), x -> x.job(0, 0, 0, 0), OUTSIDE);
        twins.refused("30: due outside ahead of full", x -> jobs(x, 8), x -> x.job(0, 1, 1001, 0), OUTSIDE);
        twins.refused("30: price outside ahead of full", x -> jobs(x, 8), x -> x.job(0, 1, 0, 101), OUTSIDE);
        twins.answers("30: room when all went", x -> {
            jobs(x, 8);
            x.idle();
        }, x -> x.job(0, 1, 0, 0), 0);
    }

    private static void cleaningOfEachTwoHues() {
        ColourWorks x = new ColourWorks();
        for (int i = 0; i < 36; i++) {
            due.is("31: 0 at first", x.cleaning(i / 6, i % 6, i == 35 ? 1000 : i), 0);
        }
        due.is("31: a refused one", x.cleaning(0, 1, 1001), OUTSIDE);
        due.is("31: another refused one", x.cleaning(0, 1, -1), OUTSIDE);
        for (int i = 0; i < 36; i++) {
            due.is("31: each has its own", x.cleaning(i / 6, i % 6, 0), i == 35 ? 1000 : i);
        }
    }

    private static int costOfOne(int time, int dueTime, int price) {
        ColourWorks x = new ColourWorks();
        x.job(0, time, dueTime, price);
        return x.plan(0);
    }

    private static void lateByOne() {
        due.is("32: a time below its due time", costOfOne(9, 10, 7), 0);
        due.is("32: just its due time", costOfOne(10, 10, 7), 0);
        due.is("32: one above", costOfOne(11, 10, 7), 7);
        due.is("32: two above", costOfOne(12, 10, 7), 14);
        due.is("32: due at 0", costOfOne(1, 0, 7), 7);
        due.is("32: the longest, due at 0", costOfOne(100, 0, 100), 10000);
        due.is("32: far ahead", costOfOne(1, 1000, 100), 0);
    }

    private static void timesUpToItAndWithIt() {
        int[][] rows = {{30, 0}, {29, 1}, {31, 0}};
        for (int[] row : rows) {
            ColourWorks x = new ColourWorks();
            x.job(0, 10, 10, 100);
            x.job(0, 20, row[0], 1);
            due.is("32: the second due at " + row[0], x.plan(0), row[1]);
            due.is("33: the first first", x.planned(0), 0);
        }
    }

    private static void priceOfNoneAndMost() {
        due.is("32: a price of 0", costOfOne(100, 0, 0), 0);
        due.is("32: a price of 1", costOfOne(100, 0, 1), 100);
        due.is("32: a price of 100", costOfOne(100, 99, 100), 100);
    }

    private static void cleaningFromTheFirstHue() {
        for (int hue = 0; hue < 6; hue++) {
            ColourWorks x = new ColourWorks();
            x.job(5 - hue, 1, 1000, 0);
            x.cleaning(hue, 5 - hue, 1000);
            for (int from = 0; from < 6; from++) {
                due.is("32: from hue " + from + " to " + (5 - hue), x.plan(from), from == hue ? 1000 : 0);
            }
            x.plan(0);
            due.is("32: a refused plan", x.plan(6), UNKNOWN);
            due.is("33: leaves the last one", x.planned(0), 0);
        }
    }

    private static void cleaningToItself() {
        ColourWorks x = new ColourWorks();
        x.job(3, 1, 1000, 0);
        x.job(3, 1, 1000, 0);
        x.cleaning(3, 3, 5);
        due.is("32: from itself, and between both", x.plan(3), 10);
        due.is("32: between both", x.plan(2), 5);
    }

    private static void greatestCost() {
        ColourWorks x = new ColourWorks();
        for (int i = 0; i < 36; i++) {
            x.cleaning(i / 6, i % 6, 1000);
        }
        for (int i = 0; i < 8; i++) {
            x.job(i % 6, 100, 0, 100);
        }
        due.is("32: the greatest", x.plan(5), 8000 + 100 * (100 + 200 + 300 + 400 + 500 + 600 + 700 + 800));
        planIs("of the greatest", x, 0, 1, 2, 3, 4, 5, 6, 7);
    }

    private static void planIs(String what, ColourWorks x, int... order) {
        for (int i = 0; i < order.length; i++) {
            due.is("33: " + what + ", place " + i, x.planned(i), order[i]);
        }
        due.is("33: " + what + ", ahead of the first", x.planned(-1), UNKNOWN);
        due.is("33: " + what + ", behind the last", x.planned(order.length), UNKNOWN);
        due.is("33: " + what + ", far behind", x.planned(8), UNKNOWN);
    }

    /** All orders of like jobs cost the same; a cost at one place moves just what must be moved. */
    private static void leastNumbersFirst() {
        ColourWorks x = new ColourWorks();
        for (int i = 0; i < 8; i++) {
            x.job(i == 0 ? 1 : 0, 10, 1000, 1);
        }
        due.is("32: none costs", x.plan(0), 0);
        planIs("of equals", x, 0, 1, 2, 3, 4, 5, 6, 7);
        x.cleaning(1, 0, 1);
        due.is("32: the first one goes last", x.plan(0), 0);
        planIs("with one that goes last", x, 1, 2, 3, 4, 5, 6, 7, 0);
        x.cleaning(0, 1, 1);
        due.is("32: first or last is one", x.plan(0), 1);
        planIs("from the other hue", x, 1, 2, 3, 4, 5, 6, 7, 0);
        due.is("32: from its hue first or last is one", x.plan(1), 1);
        planIs("from its hue", x, 0, 1, 2, 3, 4, 5, 6, 7);
    }

    private static void dearerByOne() {
        int[][] rows = {{5, 0}, {6, 1}, {4, 0}};
        for (int[] row : rows) {
            ColourWorks x = new ColourWorks();
            x.job(0, 10, 0, 5);
            x.job(0, 10, 0, row[0]);
            due.is("32: prices 5 and " + row[0], x.plan(0), 10 * Math.max(5, row[0]) + 20 * Math.min(5, row[0]));
            due.is("33: of equals the least number", x.planned(0), row[1]);
            due.is("33: then the other", x.planned(1), 1 - row[1]);
        }
    }

    /** The first place goes by times from 0: one later or earlier, and another job would seem to be as good or better. */
    private static void firstPlaceByOneUnitOfTime() {
        ColourWorks x = new ColourWorks();
        x.job(0, 1, 1000, 0);
        x.job(0, 10, 10, 5);
        due.is("32: just in time, ahead of what has time", x.plan(0), 0);
        planIs("just in time", x, 1, 0);
        ColourWorks y = new ColourWorks();
        y.job(0, 1, 1000, 0);
        y.job(1, 1, 0, 5);
        y.cleaning(2, 1, 5);
        due.is("32: late by one more, or cleaned for as much", y.plan(2), 10);
        planIs("of equals", y, 0, 1);
        y.cleaning(2, 1, 4);
        due.is("32: cleaned for one less", y.plan(2), 9);
        planIs("cleaned for one less", y, 1, 0);
    }

    private static void nextPlaceByTheHueBefore() {
        ColourWorks x = new ColourWorks();
        for (int i = 0; i < 36; i++) {
            x.cleaning(i / 6, i % 6, 1);
        }
        x.cleaning(0, 3, 0);
        x.cleaning(3, 2, 0);
        x.cleaning(2, 1, 0);
        x.cleaning(0, 1, 0);
        x.cleaning(0, 2, 5);
        for (int hue = 1; hue <= 3; hue++) {
            x.job(hue, 1, 1000, 0);
        }
        due.is("32: by the hues 3, 2, 1", x.plan(0), 0);
        planIs("by the hues 3, 2, 1", x, 2, 1, 0);
        due.is("32: from hue 4 the first costs one", x.plan(4), 1);
        planIs("from hue 4", x, 2, 1, 0);
    }

    private static void nextPlaceByTheTimesBefore() {
        ColourWorks x = new ColourWorks();
        x.job(0, 50, 0, 2);
        x.job(0, 1, 0, 1);
        x.job(0, 90, 0, 100);
        due.is("32: the dearest, then the short one", x.plan(0), 100 * 90 + 91 + 2 * 141);
        planIs("the dearest, then the short one", x, 2, 1, 0);
    }

    private static void planWithoutJobs() {
        ColourWorks x = new ColourWorks();
        for (int hue = 0; hue < 6; hue++) {
            x.cleaning(hue, hue, 9);
            due.is("32: without jobs", x.plan(hue), 0);
            due.is("33: without jobs", x.planned(0), UNKNOWN);
        }
        due.is("32: hue -1", x.plan(-1), UNKNOWN);
        due.is("32: hue 6", x.plan(6), UNKNOWN);
    }

    private static void plannedPlaces() {
        for (int n = 0; n <= 8; n++) {
            ColourWorks x = new ColourWorks();
            jobs(x, n);
            due.is("33: no plan was made of " + n, x.planned(0), UNKNOWN);
            x.plan(0);
            for (int i = 0; i < n; i++) {
                due.is("33: of " + n + ", place " + i, x.planned(i), i);
            }
            due.is("33: of " + n + ", behind the last", x.planned(n), UNKNOWN);
            due.is("33: of " + n + ", ahead of the first", x.planned(-1), UNKNOWN);
        }
    }

    private static void planAsJobsWere() {
        ColourWorks x = new ColourWorks();
        jobs(x, 7);
        x.plan(0);
        x.job(0, 1, 0, 100);
        planIs("when a job came", x, 0, 1, 2, 3, 4, 5, 6);
        x.job(0, 1, 0, 100);
        x.plan(-1);
        planIs("when a plan was refused", x, 0, 1, 2, 3, 4, 5, 6);
        x.idle();
        planIs("when all jobs went", x, 0, 1, 2, 3, 4, 5, 6);
        x.job(0, 1, 0, 1);
        planIs("when another came", x, 0, 1, 2, 3, 4, 5, 6);
        due.is("32: of fewer jobs than the last one", x.plan(0), 1);
        planIs("made anew", x, 0);
        x.idle();
        due.is("32: of none", x.plan(0), 0);
        planIs("made without jobs", x);
    }

    private static void idleAtTheEdges() {
        for (int n = 0; n <= 8; n++) {
            ColourWorks x = new ColourWorks();
            jobs(x, n);
            due.is("34: of " + n, x.idle(), n);
            due.is("34: none is left of " + n, x.idle(), 0);
            due.is("35: none is left of " + n, x.count(5), 0);
            due.is("32: none is left of " + n, x.plan(0), 0);
        }
        ColourWorks x = new ColourWorks();
        jobs(x, 8);
        x.job(0, 1, 0, 0);
        due.is("34: the ninth was none", x.idle(), 8);
    }

    private static void countsAtTheEdges() {
        ColourWorks x = new ColourWorks();
        for (int i = 0; i < 41; i++) {
            x.base(1, 1);
            x.lot(0, 5, 9);
            x.recipe();
            x.batch();
            x.job(0, 1, 0, 0);
        }
        x.weigh(0, 0, 200);
        x.pour(0, 0);
        for (int i = 0; i < 101; i++) {
            x.fill(0, 1);
        }
        int[] most = {8, 40, 12, 24, 100, 8, 0, 0};
        for (int what = 0; what < 8; what++) {
            due.is("35: the most of " + what, x.count(what), most[what]);
        }
        due.is("35: no count -1", x.count(-1), OUTSIDE);
        due.is("35: no count 8", x.count(8), OUTSIDE);
    }
}
