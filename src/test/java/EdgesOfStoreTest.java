/** The boundary cases of promises 1 to 7, and of taking units; LimitsTest has those of single numbers. */
public final class EdgesOfStoreTest {
    private static final int UNKNOWN = -2, OUTSIDE = -3, NOT = -4, SHORT = -5, FULL = -6;
    private static final Due due = new Due();
    private static final Twins twins = new Twins(due);

    public static void main(String[] args) {
        newObjectHasNothing();
        eightBases();
        strengthsAtTheirEdges();
        bandsAreApart();
        fortyLots();
        lotsAtTheirEdges();
        lotUntilItsLastDay();
        lotWithoutUnits();
        dayUpToTheLast();
        lotsGiveOneAfterAnother();
        lotsOfTheSameLastDay();
        lotsThatEndedDoNotGive();
        lotsOfOtherBasesDoNotGive();
        shortByOne();
        due.end();
    }

    private static void newObjectHasNothing() {
        ColourWorks x = new ColourWorks();
        due.is("1: the day is 0", x.day(0), 0);
        due.is("1: no lot", x.left(0), UNKNOWN);
        due.is("1: no base", x.may(0), UNKNOWN);
        due.is("1: no drops", x.drop(0), UNKNOWN);
        due.is("1: no batch", x.dropIn(0), UNKNOWN);
        due.is("1: no drum", x.drum(0, 0), UNKNOWN);
        due.is("1: no stain", x.tankShade(0, 0), NOT);
        due.is("1: nothing to fill of", x.fill(0, 1), NOT);
        due.is("1: no plan", x.planned(0), UNKNOWN);
        due.is("1: no job", x.idle(), 0);
        due.is("1: base from 0", x.base(0, 0), 0);
        due.is("1: lot from 0", x.lot(0, 1, 0), 0);
        due.is("1: recipe from 0", x.recipe(), 0);
        due.is("1: batch from 0", x.batch(), 0);
        due.is("1: job from 0", x.job(0, 1, 0, 0), 0);
        due.is("1: a recipe has no parts", x.part(0, false, 0, 1), 1);
    }

    private static void bases(ColourWorks x, int n) {
        for (int i = 0; i < n; i++) {
            x.base(10 + i, 10);
        }
    }

    private static void eightBases() {
        twins.answers("2: the seventh", x -> bases(x, 6), x -> x.base(1, 1), 6);
        twins.answers("2: the eighth", x -> bases(x, 7), x -> x.base(1, 1), 7);
        twins.refused("2: the ninth", x -> bases(x, 8), x -> x.base(1, 1), FULL);
        twins.refused("2: a outside ahead of full", x -> bases(x, 8), x -> x.base(-1, 1), OUTSIDE);
        twins.refused("2: b outside ahead of full", x -> bases(x, 8), x -> x.base(1, 1001), OUTSIDE);
        ColourWorks x = new ColourWorks();
        bases(x, 8);
        due.is("4: a lot of the eighth", x.lot(7, 3, 9), 0);
        due.is("6: of the eighth", x.may(7), 3);
        due.is("12: of the eighth", x.weigh(x.batch(), 7, 3), 3);
        due.is("18: of the eighth", x.shade(0, 2), 1700);
    }

    /** A batch of one unit of a base tells what it absorbs and scatters. */
    private static void unitOf(ColourWorks x, int base) {
        x.lot(base, 1, 9);
        x.weigh(x.batch(), base, 1);
    }

    private static void strengthsAtTheirEdges() {
        int[][] told = {{0, 1000, 0}, {1, 1000, 1}, {999, 1000, 999}, {1000, 1000, 1000}, {1000, 999, 1001},
            {1000, 1, 1000000}, {1, 1, 1000}, {0, 0, 1000000}, {1000, 0, 1000000}, {0, 1, 0}};
        for (int[] row : told) {
            ColourWorks x = new ColourWorks();
            x.base(row[0], row[1]);
            unitOf(x, 0);
            ColourWorks y = new ColourWorks();
            y.base(500, 7);
            unitOf(y, 0);
            for (int band = 0; band < 3; band++) {
                due.is("2: " + row[0] + " by " + row[1], x.shade(0, band), row[2]);
                due.is("3: told", y.band(0, band, row[0], row[1]), 1);
                due.is("3: " + row[0] + " by " + row[1], y.shade(0, band), row[2]);
            }
        }
    }

    private static void bandsAreApart() {
        for (int band = 0; band < 3; band++) {
            ColourWorks x = new ColourWorks();
            bases(x, 2);
            unitOf(x, 0);
            unitOf(x, 1);
            x.band(0, band, 77, 10);
            for (int other = 0; other < 3; other++) {
                due.is("3: told in band " + band, x.shade(0, other), other == band ? 7700 : 1000);
                due.is("3: another base", x.shade(1, other), 1100);
            }
        }
    }

    private static void lots(ColourWorks x, int n) {
        x.base(10, 10);
        for (int i = 0; i < n; i++) {
            x.lot(0, 2, 9);
        }
    }

    private static void fortyLots() {
        twins.answers("4: the 39th", x -> lots(x, 38), x -> x.lot(0, 1, 1), 38);
        twins.answers("4: the 40th", x -> lots(x, 39), x -> x.lot(0, 1, 1), 39);
        twins.refused("4: the 41st", x -> lots(x, 40), x -> x.lot(0, 1, 1), FULL);
        twins.refused("4: unknown ahead of full", x -> lots(x, 40), x -> x.lot(1, 1, 1), UNKNOWN);
        twins.refused("4: units outside ahead of full", x -> lots(x, 40), x -> x.lot(0, 0, 1), OUTSIDE);
        twins.refused("4: last outside ahead of full", x -> lots(x, 40), x -> x.lot(0, 1, 10001), OUTSIDE);
        ColourWorks x = new ColourWorks();
        lots(x, 40);
        x.batch();
        due.is("12: out of all forty", x.weigh(0, 0, 80), 80);
        due.is("5: the last gave, too", x.left(39), 0);
        due.is("29: the last is in it", x.recall(39, 1), 1);
        twins.refused("4: no room by lots that are used up", y -> {
            lots(y, 40);
            y.weigh(y.batch(), 0, 80);
        }, y -> y.lot(0, 1, 9), FULL);
    }

    private static void lotsAtTheirEdges() {
        ColourWorks x = new ColourWorks();
        x.base(1, 1);
        due.is("4: one unit", x.lot(0, 1, 0), 0);
        due.is("4: 20000 units", x.lot(0, 20000, 10000), 1);
        due.is("5: one unit", x.left(0), 1);
        due.is("5: 20000 units", x.left(1), 20000);
        due.is("6: both", x.may(0), 20001);
        x.day(1);
        due.is("6: the last day 0 is gone", x.may(0), 20000);
        for (int i = 0; i < 9; i++) {
            x.day(1000);
        }
        x.day(999);
        due.is("6: on the last day 10000", x.may(0), 20000);
    }

    private static void lotUntilItsLastDay() {
        ColourWorks x = new ColourWorks();
        x.base(1, 1);
        x.lot(0, 5, 3);
        x.batch();
        x.day(2);
        due.is("6: a day ahead of its last", x.may(0), 5);
        due.is("12: a day ahead of its last", x.weigh(0, 0, 1), 1);
        x.day(1);
        due.is("6: on its last day", x.may(0), 4);
        due.is("12: on its last day", x.weigh(0, 0, 1), 2);
        x.day(1);
        due.is("6: a day behind its last", x.may(0), 0);
        due.is("12: a day behind its last", x.weigh(0, 0, 1), SHORT);
        due.is("5: it has its units still", x.left(0), 3);
        due.is("4: a lot that ended already", x.lot(0, 6, 3), 1);
        due.is("5: its units", x.left(1), 6);
        due.is("6: it may not be used", x.may(0), 0);
        due.is("4: a lot of today", x.lot(0, 7, 4), 2);
        due.is("6: it may be used", x.may(0), 7);
    }

    private static void lotWithoutUnits() {
        ColourWorks x = new ColourWorks();
        x.base(1, 1);
        x.lot(0, 2, 3);
        x.lot(0, 2, 4);
        x.batch();
        x.batch();
        x.weigh(0, 0, 1);
        due.is("6: one unit of it is left", x.may(0), 3);
        x.weigh(0, 0, 1);
        due.is("5: no unit of it is left", x.left(0), 0);
        due.is("6: of the other one alone", x.may(0), 2);
        due.is("12: of the other one", x.weigh(1, 0, 2), 2);
        due.is("29: a lot without units gave none", x.recall(0, 1), 1);
        due.is("6: none", x.may(0), 0);
    }

    private static void days(ColourWorks x, int day) {
        x.base(1, 1);
        x.lot(0, 4, 10000);
        for (int left = day; left > 0; left -= 1000) {
            x.day(Math.min(left, 1000));
        }
    }

    private static void dayUpToTheLast() {
        twins.answers("7: by none", x -> days(x, 0), x -> x.day(0), 0);
        twins.answers("7: by one", x -> days(x, 0), x -> x.day(1), 1);
        twins.answers("7: by 999", x -> days(x, 5), x -> x.day(999), 1004);
        twins.answers("7: by 1000", x -> days(x, 5), x -> x.day(1000), 1005);
        twins.refused("7: by 1001", x -> days(x, 5), x -> x.day(1001), OUTSIDE);
        twins.refused("7: back", x -> days(x, 5), x -> x.day(-1), OUTSIDE);
        twins.answers("7: to 9999", x -> days(x, 9000), x -> x.day(999), 9999);
        twins.answers("7: to 10000", x -> days(x, 9000), x -> x.day(1000), 10000);
        twins.refused("7: to 10001", x -> days(x, 9001), x -> x.day(1000), OUTSIDE);
        twins.answers("7: by one to 10000", x -> days(x, 9999), x -> x.day(1), 10000);
        twins.refused("7: by one to 10001", x -> days(x, 10000), x -> x.day(1), OUTSIDE);
        twins.refused("7: by 1000 to 11000", x -> days(x, 10000), x -> x.day(1000), OUTSIDE);
        twins.answers("7: by none at 10000", x -> days(x, 10000), x -> x.day(0), 10000);
        twins.refused("7: as far as an int goes", x -> days(x, 10000), x -> x.day(Integer.MAX_VALUE), OUTSIDE);
        twins.answers("35: the day", x -> days(x, 10000), x -> x.count(6), 10000);
        twins.answers("6: on day 10000", x -> days(x, 10000), x -> x.may(0), 4);
    }

    private static void givers(ColourWorks x) {
        x.base(1, 1);
        x.lot(0, 5, 9);
        x.lot(0, 4, 7);
        x.lot(0, 3, 8);
        x.batch();
    }

    /** Lots 1, 2, 0 give, in this order: what each has, or what is still wanted. */
    private static void lotsGiveOneAfterAnother() {
        int[][] rows = {{1, 5, 3, 3}, {3, 5, 1, 3}, {4, 5, 0, 3}, {5, 5, 0, 2}, {6, 5, 0, 1}, {7, 5, 0, 0},
            {8, 4, 0, 0}, {11, 1, 0, 0}, {12, 0, 0, 0}};
        for (int[] row : rows) {
            ColourWorks x = new ColourWorks();
            givers(x);
            due.is("12: takes " + row[0], x.weigh(0, 0, row[0]), row[0]);
            for (int lot = 0; lot < 3; lot++) {
                int had = 5 - lot;
                due.is("take " + row[0] + ": left of lot " + lot, x.left(lot), row[lot + 1]);
                due.is("take " + row[0] + ": lot " + lot + " in it", x.recall(lot, 1), row[lot + 1] < had ? 1 : 0);
            }
        }
    }

    private static void lotsOfTheSameLastDay() {
        ColourWorks x = new ColourWorks();
        x.base(1, 1);
        for (int i = 0; i < 3; i++) {
            x.lot(0, 2, 5);
        }
        x.batch();
        int[][] left = {{1, 2, 2}, {0, 2, 2}, {0, 1, 2}, {0, 0, 2}, {0, 0, 1}, {0, 0, 0}};
        for (int[] row : left) {
            x.weigh(0, 0, 1);
            for (int lot = 0; lot < 3; lot++) {
                due.is("take: of several the least number, lot " + lot, x.left(lot), row[lot]);
            }
        }
    }

    private static void lotsThatEndedDoNotGive() {
        ColourWorks x = new ColourWorks();
        x.base(1, 1);
        x.lot(0, 5, 1);
        x.lot(0, 5, 2);
        x.lot(0, 5, 3);
        x.batch();
        x.day(2);
        due.is("take: one more than may be taken", x.weigh(0, 0, 11), SHORT);
        due.is("take: that of today first", x.weigh(0, 0, 6), 6);
        due.is("take: the ended one keeps its units", x.left(0), 5);
        due.is("take: that of today gave all", x.left(1), 0);
        due.is("take: the next gave one", x.left(2), 4);
        due.is("take: the ended one isn't in it", x.recall(0, 1), 0);
    }

    private static void lotsOfOtherBasesDoNotGive() {
        ColourWorks x = new ColourWorks();
        bases(x, 2);
        x.lot(1, 5, 0);
        x.lot(0, 5, 9);
        x.batch();
        due.is("take: more than of this base", x.weigh(0, 0, 6), SHORT);
        due.is("take: of this base", x.weigh(0, 0, 5), 5);
        due.is("take: the other gave none", x.left(0), 5);
        due.is("6: the other", x.may(1), 5);
        due.is("6: this one", x.may(0), 0);
    }

    private static void shortByOne() {
        twins.answers("12: one less than all", EdgesOfStoreTest::givers, x -> x.weigh(0, 0, 11), 11);
        twins.answers("12: all", EdgesOfStoreTest::givers, x -> x.weigh(0, 0, 12), 12);
        twins.refused("12: one more than all, none gives", EdgesOfStoreTest::givers, x -> x.weigh(0, 0, 13), SHORT);
        twins.refused("12: of a base without a lot", x -> {
            bases(x, 1);
            x.batch();
        }, x -> x.weigh(0, 0, 1), SHORT);
    }
}
