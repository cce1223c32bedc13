/** The boundary cases of promises 8 to 10, and 13; LimitsTest has those of single numbers. */
public final class EdgesOfRecipesTest {
    private static final int UNKNOWN = -2, OUTSIDE = -3, NOT = -4, SHORT = -5, FULL = -6;
    private static final Due due = new Due();
    private static final Twins twins = new Twins(due);

    public static void main(String[] args) {
        twelveRecipes();
        sixParts();
        partsOfOneAndOfHundred();
        elderOrNot();
        upToAllOfBases();
        upToAllOfElders();
        youngerOnesInTheWay();
        elderOfNothing();
        farAboveAll();
        resolvedOfEachBase();
        brewOnceAndHundredTimes();
        brewRefusedInOrder();
        brewOfNothing();
        brewShortOfSomeBase();
        brewUpToAll();
        due.end();
    }

    private static void works(ColourWorks x, int bases, int recipes) {
        for (int i = 0; i < bases; i++) {
            x.base(10, 10);
        }
        for (int i = 0; i < recipes; i++) {
            x.recipe();
        }
    }

    private static void twelveRecipes() {
        twins.answers("8: the eleventh", x -> works(x, 1, 10), x -> x.recipe(), 10);
        twins.answers("8: the twelfth", x -> works(x, 1, 11), x -> x.recipe(), 11);
        twins.refused("8: the 13th", x -> works(x, 1, 12), x -> x.recipe(), FULL);
        twins.answers("9: a part of the twelfth", x -> works(x, 1, 12), x -> x.part(11, false, 0, 1), 1);
        twins.refused("9: a part of a 13th", x -> works(x, 1, 12), x -> x.part(12, false, 0, 1), UNKNOWN);
    }

    private static void parts(ColourWorks x, int n) {
        works(x, 2, 3);
        for (int i = 0; i < n; i++) {
            x.part(1, i % 2 == 1, 0, 2);
        }
    }

    private static void sixParts() {
        twins.answers("9: the fifth", x -> parts(x, 4), x -> x.part(1, false, 1, 1), 5);
        twins.answers("9: the sixth of a base", x -> parts(x, 5), x -> x.part(1, false, 1, 1), 6);
        twins.answers("9: the sixth of an elder one", x -> parts(x, 5), x -> x.part(1, true, 0, 1), 6);
        twins.refused("9: the seventh of a base", x -> parts(x, 6), x -> x.part(1, false, 1, 1), FULL);
        twins.refused("9: the seventh of an elder one", x -> parts(x, 6), x -> x.part(1, true, 0, 1), FULL);
        twins.refused("9: base unknown ahead of full", x -> parts(x, 6), x -> x.part(1, false, 2, 1), UNKNOWN);
        twins.refused("9: elder unknown ahead of full", x -> parts(x, 6), x -> x.part(1, true, 3, 1), UNKNOWN);
        twins.refused("9: n outside ahead of full", x -> parts(x, 6), x -> x.part(1, false, 0, 101), OUTSIDE);
        twins.refused("9: no elder one ahead of full", x -> parts(x, 6), x -> x.part(1, true, 1, 1), OUTSIDE);
        twins.answers("9: another recipe has room", x -> parts(x, 6), x -> x.part(2, true, 1, 1), 1);
        ColourWorks x = new ColourWorks();
        parts(x, 6);
        due.is("9: the elder of a full one", x.part(0, false, 1, 5), 1);
        due.is("10: the full one needs more, too", x.resolved(1, 1), 30);
        due.is("10: and what it had", x.resolved(1, 0), 6);
    }

    private static void partsOfOneAndOfHundred() {
        ColourWorks x = new ColourWorks();
        works(x, 2, 3);
        due.is("9: one of a base", x.part(0, false, 0, 1), 1);
        due.is("9: 100 of a base", x.part(0, false, 1, 100), 2);
        due.is("9: one of an elder one", x.part(1, true, 0, 1), 1);
        due.is("9: 100 of an elder one", x.part(2, true, 0, 100), 1);
        int[][] needs = {{1, 100}, {1, 100}, {100, 10000}};
        for (int i = 0; i < 6; i++) {
            due.is("10: recipe " + i / 2 + ", base " + i % 2, x.resolved(i / 2, i % 2), needs[i / 2][i % 2]);
        }
    }

    private static void elderOrNot() {
        Twins.Steps before = x -> works(x, 9, 4);
        twins.answers("9: the eldest", before, x -> x.part(2, true, 0, 1), 1);
        twins.answers("9: the next elder one", before, x -> x.part(2, true, 1, 1), 1);
        twins.refused("9: itself", before, x -> x.part(2, true, 2, 1), OUTSIDE);
        twins.refused("9: the next younger one", before, x -> x.part(2, true, 3, 1), OUTSIDE);
        twins.refused("9: one that isn't there", before, x -> x.part(2, true, 4, 1), UNKNOWN);
        twins.refused("9: the eldest has no elder one", before, x -> x.part(0, true, 0, 1), OUTSIDE);
        twins.refused("9: no elder one, n outside", before, x -> x.part(2, true, 3, 0), OUTSIDE);
        twins.refused("9: unknown ahead of n outside", before, x -> x.part(2, true, 4, 0), UNKNOWN);
        twins.refused("9: recipe unknown ahead of no elder one", before, x -> x.part(-1, true, 0, 1), UNKNOWN);
        twins.answers("9: a base may have a greater number", before, x -> x.part(2, false, 7, 1), 1);
        twins.answers("9: or the same one", before, x -> x.part(2, false, 2, 1), 1);
        twins.refused("9: no ninth base", before, x -> x.part(2, false, 8, 1), UNKNOWN);
    }

    /** Recipe 0 needs 100, recipe 1 10000, recipe 2 as much, so many times recipe 0 and so many units of base 2. */
    private static void nearlyAll(ColourWorks x, int timesMore, int unitsMore) {
        works(x, 3, 4);
        x.part(0, false, 0, 60);
        x.part(0, false, 1, 40);
        x.part(1, true, 0, 100);
        x.part(2, true, 1, 1);
        if (timesMore > 0) {
            x.part(2, true, 0, timesMore);
        }
        if (unitsMore > 0) {
            x.part(2, false, 2, unitsMore);
        }
    }

    private static void upToAllOfBases() {
        Twins.Steps before = x -> nearlyAll(x, 99, 50);
        twins.answers("9: 19999 together", before, x -> x.part(2, false, 0, 49), 4);
        twins.answers("9: 20000 together", before, x -> x.part(2, false, 0, 50), 4);
        twins.refused("9: 20001 together", before, x -> x.part(2, false, 0, 51), FULL);
        twins.refused("9: 20001 by another base", before, x -> x.part(2, false, 1, 51), FULL);
        twins.refused("9: outside ahead of above 20000", before, x -> x.part(2, false, 0, 101), OUTSIDE);
        twins.refused("9: unknown ahead of above 20000", before, x -> x.part(2, false, 3, 51), UNKNOWN);
        ColourWorks x = new ColourWorks();
        before.on(x);
        x.part(2, false, 1, 50);
        due.is("10: 60 of each 100", x.resolved(2, 0), 199 * 60);
        due.is("10: 40 of each 100", x.resolved(2, 1), 199 * 40 + 50);
        due.is("10: and 50", x.resolved(2, 2), 50);
        twins.refused("9: by one at 20000", y -> nearlyAll(y, 100, 0), y -> y.part(2, false, 2, 1), FULL);
    }

    private static void upToAllOfElders() {
        twins.answers("9: just 20000", x -> nearlyAll(x, 0, 0), x -> x.part(2, true, 1, 1), 2);
        twins.answers("9: 19900 by hundreds", x -> nearlyAll(x, 50, 0), x -> x.part(2, true, 0, 49), 3);
        twins.answers("9: 20000 by hundreds", x -> nearlyAll(x, 50, 0), x -> x.part(2, true, 0, 50), 3);
        twins.refused("9: 20100 by hundreds", x -> nearlyAll(x, 50, 0), x -> x.part(2, true, 0, 51), FULL);
        twins.refused("9: 20001 with one of a base", x -> nearlyAll(x, 0, 1), x -> x.part(2, true, 1, 1), FULL);
        twins.refused("9: 30000", x -> nearlyAll(x, 0, 0), x -> x.part(2, true, 1, 2), FULL);
        twins.answers("9: 20000 in another one", x -> nearlyAll(x, 100, 0), x -> x.part(3, true, 2, 1), 1);
        twins.refused("9: 40000 in another one", x -> nearlyAll(x, 100, 0), x -> x.part(3, true, 2, 2), FULL);
    }

    /** Recipe 1 needs 150 times recipe 0 and recipe 2 needs recipe 1: only the younger ones get above 20000. */
    private static void family(ColourWorks x, int units, int more) {
        works(x, 2, 4);
        x.part(0, false, 0, units);
        x.part(1, true, 0, 100);
        x.part(1, true, 0, 50);
        x.part(2, true, 1, 1);
        x.part(2, false, 1, more);
        x.part(3, false, 1, 7);
    }

    private static void youngerOnesInTheWay() {
        twins.answers("9: the youngest gets 19801", x -> family(x, 100, 1), x -> x.part(0, false, 1, 32), 2);
        twins.answers("9: the youngest gets 20000", x -> family(x, 100, 50), x -> x.part(0, false, 1, 33), 2);
        twins.refused("9: the youngest gets 20001", x -> family(x, 100, 51), x -> x.part(0, false, 1, 33), FULL);
        twins.refused("9: both get above", x -> family(x, 100, 1), x -> x.part(0, false, 1, 34), FULL);
        twins.refused("9: outside ahead of that", x -> family(x, 100, 51), x -> x.part(0, true, 0, 33), OUTSIDE);
        twins.answers("9: what isn't of it has room", x -> family(x, 100, 50), x -> x.part(3, true, 1, 1), 2);
        ColourWorks x = new ColourWorks();
        family(x, 100, 50);
        x.part(0, false, 1, 33);
        int[][] needs = {{100, 33}, {15000, 33 * 150}, {15000, 33 * 150 + 50}, {0, 7}};
        for (int i = 0; i < 8; i++) {
            due.is("10: all that is of it needs more: " + i, x.resolved(i / 2, i % 2), needs[i / 2][i % 2]);
        }
    }

    private static void elderOfNothing() {
        Twins.Steps before = x -> {
            works(x, 1, 4);
            x.part(1, false, 0, 100);
            x.part(2, true, 1, 100);
            x.part(2, true, 1, 100);
        };
        twins.answers("9: nothing more at 20000", before, x -> x.part(2, true, 0, 100), 3);
        ColourWorks x = new ColourWorks();
        before.on(x);
        x.part(2, true, 0, 100);
        due.is("10: it needs as much as it did", x.resolved(2, 0), 20000);
        twins.refused("9: then that can't be told a part", y -> {
            before.on(y);
            y.part(2, true, 0, 1);
        }, y -> y.part(0, false, 0, 1), FULL);
        twins.answers("9: but one of nothing can, of nothing", before, y -> y.part(3, true, 0, 100), 1);
    }

    private static void farAboveAll() {
        for (int times = 1; times <= 6; times++) {
            int each = times;
            Twins.Steps before = x -> {
                works(x, 1, 12);
                for (int i = 0; i < 11 * each; i++) {
                    x.part(1 + i / each, true, i / each, 100);
                }
            };
            twins.refused("9: 100 times and 100 times again", before, x -> x.part(0, false, 0, 100), FULL);
            twins.refused("9: by one", before, x -> x.part(0, false, 0, 1), FULL);
        }
        Twins.Steps even = x -> {
            works(x, 1, 12);
            for (int i = 0; i < 11; i++) {
                x.part(1 + i, true, i, 64);
            }
        };
        twins.refused("9: 2 to the 66th wraps to 0", even, x -> x.part(0, false, 0, 1), FULL);
        twins.refused("9: 2 to the 32nd wraps to 0", even, x -> x.part(6, false, 0, 4), FULL);
    }

    private static void resolvedOfEachBase() {
        ColourWorks x = new ColourWorks();
        works(x, 8, 2);
        x.part(0, false, 0, 3);
        x.part(0, false, 7, 4);
        x.part(1, true, 0, 2);
        due.is("10: of the first base", x.resolved(1, 0), 6);
        due.is("10: of the last base", x.resolved(1, 7), 8);
        due.is("10: none of one that it has not", x.resolved(1, 6), 0);
        due.is("10: no ninth base", x.resolved(1, 8), UNKNOWN);
        due.is("10: no third recipe", x.resolved(2, 0), UNKNOWN);
    }

    /** Recipe 0 needs 30 of base 0 and 20 of base 1, recipe 1 nothing, recipe 2 200 of base 0, recipe 3 100 times nothing. */
    private static void brewery(ColourWorks x, int units0, int units1) {
        works(x, 2, 4);
        x.part(0, false, 0, 30);
        x.part(0, false, 1, 20);
        x.part(2, false, 0, 100);
        x.part(2, false, 0, 100);
        x.part(3, true, 1, 100);
        if (units0 > 0) {
            x.lot(0, units0, 9);
        }
        if (units1 > 0) {
            x.lot(1, units1, 9);
        }
        x.batch();
        x.batch();
    }

    private static void brewOnceAndHundredTimes() {
        twins.answers("13: once", x -> brewery(x, 3000, 2000), x -> x.brew(0, 0, 1), 50);
        twins.answers("13: 99 times", x -> brewery(x, 3000, 2000), x -> x.brew(0, 0, 99), 4950);
        twins.answers("13: 100 times", x -> brewery(x, 3000, 2000), x -> x.brew(0, 0, 100), 5000);
        twins.refused("13: 101 times", x -> brewery(x, 20000, 20000), x -> x.brew(0, 0, 101), OUTSIDE);
        twins.refused("13: no times", x -> brewery(x, 20000, 20000), x -> x.brew(0, 0, 0), OUTSIDE);
        ColourWorks x = new ColourWorks();
        brewery(x, 3000, 2000);
        x.brew(0, 0, 100);
        due.is("17: of base 0", x.amount(0, 0), 3000);
        due.is("17: of base 1", x.amount(0, 1), 2000);
        due.is("6: all of base 0 was taken", x.may(0), 0);
        due.is("6: all of base 1 was taken", x.may(1), 0);
    }

    private static void pouredBrewery(ColourWorks x) {
        brewery(x, 20000, 20);
        x.brew(0, 0, 1);
        x.pour(0, 0);
    }

    private static void brewRefusedInOrder() {
        Twins.Steps before = EdgesOfRecipesTest::pouredBrewery;
        twins.refused("13: not open, nothing else in the way", before, x -> x.brew(0, 2, 1), NOT);
        twins.refused("13: not open ahead of short", before, x -> x.brew(0, 0, 1), NOT);
        twins.refused("13: not open and of nothing", before, x -> x.brew(0, 1, 1), NOT);
        twins.refused("13: outside ahead of not open", before, x -> x.brew(0, 2, 101), OUTSIDE);
        twins.refused("13: recipe unknown ahead of not open", before, x -> x.brew(0, 4, 1), UNKNOWN);
        twins.refused("13: unknown ahead of outside", before, x -> x.brew(2, 2, 0), UNKNOWN);
        twins.refused("13: outside ahead of of nothing", before, x -> x.brew(1, 1, 0), OUTSIDE);
        twins.refused("13: batch unknown ahead of of nothing", before, x -> x.brew(2, 1, 1), UNKNOWN);
        twins.refused("13: outside ahead of short", before, x -> x.brew(1, 0, 101), OUTSIDE);
        twins.refused("13: unknown ahead of short", before, x -> x.brew(2, 0, 1), UNKNOWN);
        twins.refused("13: not open ahead of full", x -> {
            brewery(x, 20000, 0);
            x.lot(0, 20000, 9);
            x.brew(0, 2, 100);
            x.holds(0, 20000);
            x.pour(0, 0);
        }, x -> x.brew(0, 2, 1), NOT);
    }

    private static void brewOfNothing() {
        Twins.Steps before = x -> brewery(x, 500, 500);
        twins.refused("13: a recipe without parts", before, x -> x.brew(0, 1, 1), NOT);
        twins.refused("13: a recipe of one of nothing", before, x -> x.brew(0, 3, 1), NOT);
        twins.answers("13: no longer of nothing", x -> {
            before.on(x);
            x.part(1, false, 1, 1);
        }, x -> x.brew(0, 1, 1), 1);
        twins.answers("13: nor what is of it", x -> {
            before.on(x);
            x.part(1, false, 1, 1);
        }, x -> x.brew(0, 3, 1), 100);
        twins.refused("13: of nothing ahead of full", x -> {
            brewery(x, 20000, 5);
            x.weigh(0, 0, 20000);
        }, x -> x.brew(0, 1, 1), NOT);
    }

    private static void brewShortOfSomeBase() {
        twins.answers("13: just enough of both", x -> brewery(x, 60, 40), x -> x.brew(0, 0, 2), 100);
        twins.refused("13: one too few of the first", x -> brewery(x, 59, 40), x -> x.brew(0, 0, 2), SHORT);
        twins.refused("13: one too few of the last", x -> brewery(x, 60, 39), x -> x.brew(0, 0, 2), SHORT);
        twins.refused("13: none of the first", x -> brewery(x, 0, 40), x -> x.brew(0, 0, 2), SHORT);
        twins.refused("13: none of the last", x -> brewery(x, 60, 0), x -> x.brew(0, 0, 2), SHORT);
        twins.answers("13: none of what it needs not", x -> brewery(x, 200, 0), x -> x.brew(0, 2, 1), 200);
        twins.refused("13: what ended isn't there", x -> {
            brewery(x, 60, 0);
            x.lot(1, 40, 2);
            x.day(3);
        }, x -> x.brew(0, 0, 2), SHORT);
        twins.answers("13: what ends today is", x -> {
            brewery(x, 60, 0);
            x.lot(1, 40, 2);
            x.day(2);
        }, x -> x.brew(0, 0, 2), 100);
    }

    private static void brewing(ColourWorks x, int before) {
        brewery(x, 20000, 0);
        x.lot(0, 300, 9);
        x.weigh(0, 0, before);
    }

    private static void brewUpToAll() {
        twins.answers("13: 19999 together", x -> brewing(x, 19799), x -> x.brew(0, 2, 1), 19999);
        twins.answers("13: 20000 together", x -> brewing(x, 19800), x -> x.brew(0, 2, 1), 20000);
        twins.refused("13: 20001 together", x -> brewing(x, 19801), x -> x.brew(0, 2, 1), FULL);
        twins.refused("13: short ahead of full", x -> brewing(x, 19801), x -> x.brew(0, 2, 3), SHORT);
        twins.refused("13: outside ahead of full", x -> brewing(x, 19801), x -> x.brew(0, 2, 0), OUTSIDE);
        twins.refused("13: unknown ahead of full", x -> brewing(x, 19801), x -> x.brew(0, 4, 1), UNKNOWN);
        twins.answers("13: 100 times 200", x -> brewery(x, 20000, 0), x -> x.brew(0, 2, 100), 20000);
        Twins.Steps great = x -> {
            brewery(x, 20000, 0);
            x.lot(0, 20000, 9);
            x.recipe();
            x.part(4, true, 2, 100);
        };
        twins.answers("13: once 20000", great, x -> x.brew(0, 4, 1), 20000);
        twins.refused("13: twice 20000", great, x -> x.brew(0, 4, 2), FULL);
        twins.refused("13: three times 20000", great, x -> x.brew(0, 4, 3), SHORT);
        twins.refused("13: two millions", great, x -> x.brew(0, 4, 100), SHORT);
    }
}
