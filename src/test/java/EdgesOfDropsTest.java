/** The boundary cases of promises 14 to 16; LimitsTest has those of single numbers. */
public final class EdgesOfDropsTest {
    private static final int UNKNOWN = -2, OUTSIDE = -3, NOT = -4, SHORT = -5, FULL = -6;
    private static final int MOST = 1000000;
    private static final Due due = new Due();
    private static final Twins twins = new Twins(due);

    public static void main(String[] args) {
        soManyAtMost();
        notMoreThanMayBeTaken();
        notAboveAllUnits();
        leastMiss();
        fewestUnits();
        leastNumbersFromBaseZero();
        allEightBases();
        dropsRefusedInOrder();
        refusedDropsStay();
        dropWithout();
        dropInNoneFound();
        dropInOfNoUnits();
        dropInShort();
        dropInUpToAll();
        dropInRefusedInOrder();
        due.end();
    }

    /** Batch 0 has n units of base 0, which is light; base 1 is dark, so that each unit of it darkens. */
    private static void lightAndDark(ColourWorks x, int n, int dark) {
        x.base(0, 10);
        x.base(10, 10);
        x.lot(0, 20000, 9);
        if (dark > 0) {
            x.lot(1, dark, 9);
        }
        x.batch();
        x.batch();
        x.weigh(0, 0, n);
    }

    private static int darkest(ColourWorks x, int most) {
        return x.drops(0, most, MOST, MOST, MOST);
    }

    private static void found(String what, ColourWorks x, int... want) {
        for (int base = 0; base < want.length; base++) {
            due.is(what + ", base " + base, x.drop(base), want[base]);
        }
    }

    private static void soManyAtMost() {
        for (int most = 0; most <= 8; most++) {
            ColourWorks x = new ColourWorks();
            lightAndDark(x, 10, 100);
            due.is("14: " + most + " at most", darkest(x, most), MOST - 1000 * most / (10 + most));
            found("15: " + most + " at most", x, 0, most);
        }
        twins.refused("14: nine at most", x -> lightAndDark(x, 10, 100), x -> darkest(x, 9), OUTSIDE);
        twins.refused("14: -1 at most", x -> lightAndDark(x, 10, 100), x -> darkest(x, -1), OUTSIDE);
        ColourWorks x = new ColourWorks();
        lightAndDark(x, 8, 100);
        due.is("14: one unit too few", x.drops(0, 7, 500, 500, 500), 500 - 7000 / 15);
        due.is("14: just so many", x.drops(0, 8, 500, 500, 500), 0);
        found("15: just so many", x, 0, 8);
    }

    private static void notMoreThanMayBeTaken() {
        for (int dark = 0; dark <= 9; dark++) {
            int most = Math.min(dark, 8);
            ColourWorks x = new ColourWorks();
            lightAndDark(x, 10, dark);
            due.is("14: of " + dark + " that are there", darkest(x, 8), MOST - 1000 * most / (10 + most));
            found("15: of " + dark + " that are there", x, 0, most);
        }
        ColourWorks x = new ColourWorks();
        lightAndDark(x, 10, 3);
        x.lot(1, 2, 1);
        x.day(1);
        due.is("14: some end today", darkest(x, 8), MOST - 5000 / 15);
        x.day(1);
        due.is("14: some have ended", darkest(x, 8), MOST - 3000 / 13);
        x.weigh(1, 1, 2);
        due.is("14: some went into another batch", darkest(x, 8), MOST - 1000 / 11);
        found("15: one is left", x, 0, 1);
    }

    private static void notAboveAllUnits() {
        for (int room = 0; room <= 9; room++) {
            ColourWorks x = new ColourWorks();
            lightAndDark(x, 20000 - room, 100);
            x.band(1, 0, 1000, 10);
            x.band(1, 1, 1000, 10);
            x.band(1, 2, 1000, 10);
            int most = Math.min(room, 8);
            int all = 20000 - room + most;
            due.is("14: room for " + room, darkest(x, 8), MOST - 1000 * 1000 * most / (10 * all));
            found("15: room for " + room, x, 0, most);
            due.is("16: room for " + room, x.dropIn(0), all);
        }
    }

    /** Ten units of base 0 and none more: with 0, 1, 2, 3 of base 1 the shade is 0, 90, 166, 230. */
    private static void leastMiss() {
        ColourWorks x = new ColourWorks();
        lightAndDark(x, 10, 100);
        x.weigh(1, 0, 19990);
        due.is("14: one and two are as near", x.drops(0, 8, 128, 128, 128), 38);
        found("15: then fewer", x, 0, 1);
        due.is("14: nearer to one", x.drops(0, 8, 127, 127, 127), 37);
        found("15: nearer to one", x, 0, 1);
        due.is("14: nearer to two", x.drops(0, 8, 129, 129, 129), 37);
        found("15: nearer to two", x, 0, 2);
        for (int band = 0; band < 3; band++) {
            int[] aim = {166, 166, 166};
            aim[band] = 300;
            due.is("14: the worst band counts, " + band, x.drops(0, 8, aim[0], aim[1], aim[2]), 70);
            found("15: between them", x, 0, 3);
        }
    }

    /** A unit of base 0 does what two of base 1 do; base 2 only absorbs. */
    private static void fewestUnits() {
        ColourWorks x = new ColourWorks();
        x.base(20, 20);
        x.base(10, 10);
        x.base(1000, 0);
        x.batch();
        for (int base = 0; base < 3; base++) {
            x.lot(base, 100, 9);
        }
        x.weigh(0, 1, 10);
        due.is("14: none is as good as any", x.drops(0, 8, 1000, 1000, 1000), 0);
        found("15: none", x, 0, 0, 0);
        x.weigh(0, 2, 1);
        due.is("14: one of base 0 is as good as two of base 1", x.drops(0, 8, 9333, 9333, 9333), 0);
        found("15: fewer units go ahead of fewer of base 0", x, 1, 0, 0);
        x.batch();
        x.weigh(1, 0, 100);
        due.is("14: without base 0", x.drops(0, 8, 9333, 9333, 9333), 0);
        found("15: two of base 1", x, 0, 2, 0);
    }

    /** Bases 1 to 3 are alike, and two units of them are best. */
    private static ColourWorks alike(int of1, int of2, int of3) {
        ColourWorks x = new ColourWorks();
        int[] stock = {100, of1, of2, of3};
        for (int base = 0; base < 4; base++) {
            x.base(base == 0 ? 0 : 10, 10);
            if (stock[base] > 0) {
                x.lot(base, stock[base], 9);
            }
        }
        x.weigh(x.batch(), 0, 2);
        due.is("14: two of three alike", x.drops(0, 8, 500, 500, 500), 0);
        return x;
    }

    private static void leastNumbersFromBaseZero() {
        found("15: both of base 3", alike(9, 9, 9), 0, 0, 0, 2);
        found("15: base 3 has just two", alike(9, 9, 2), 0, 0, 0, 2);
        found("15: base 3 has one", alike(9, 9, 1), 0, 0, 1, 1);
        found("15: base 3 has none", alike(9, 9, 0), 0, 0, 2, 0);
        found("15: bases 2 and 3 have one", alike(9, 1, 1), 0, 0, 1, 1);
        found("15: only base 2 has one", alike(9, 1, 0), 0, 1, 1, 0);
        found("15: only base 3 has one", alike(9, 0, 1), 0, 1, 0, 1);
        found("15: only base 1 has any", alike(9, 0, 0), 0, 2, 0, 0);
    }

    private static void allEightBases() {
        ColourWorks x = new ColourWorks();
        for (int base = 0; base < 8; base++) {
            x.base(base == 0 ? 1000 : base == 7 ? 0 : 500, 500);
            x.lot(base, 8, 9);
        }
        x.lot(3, 8, 9);
        x.weigh(x.batch(), 3, 8);
        due.is("14: the first base alone", x.drops(0, 8, 2000, 2000, 2000), 500);
        found("15: eight of the first", x, 8, 0, 0, 0, 0, 0, 0, 0);
        due.is("14: the last base alone", x.drops(0, 8, 0, 0, 0), 500);
        found("15: eight of the last", x, 0, 0, 0, 0, 0, 0, 0, 8);
        due.is("15: no ninth base", x.drop(8), UNKNOWN);
    }

    private static void poured(ColourWorks x) {
        lightAndDark(x, 10, 100);
        x.drops(0, 3, 500, 500, 500);
        x.pour(0, 0);
    }

    private static void dropsRefusedInOrder() {
        Twins.Steps before = EdgesOfDropsTest::poured;
        twins.refused("14: not open", before, x -> x.drops(0, 1, 0, 0, 0), NOT);
        twins.refused("14: of nothing", before, x -> x.drops(1, 1, 0, 0, 0), NOT);
        twins.refused("14: of nothing, none at most", before, x -> x.drops(1, 0, 0, 0, 0), NOT);
        twins.refused("14: most outside ahead of not open", before, x -> x.drops(0, 9, 0, 0, 0), OUTSIDE);
        twins.refused("14: most outside ahead of of nothing", before, x -> x.drops(1, -1, 0, 0, 0), OUTSIDE);
        twins.refused("14: x outside ahead of not open", before, x -> x.drops(0, 1, -1, 0, 0), OUTSIDE);
        twins.refused("14: y outside ahead of not open", before, x -> x.drops(0, 1, 0, MOST + 1, 0), OUTSIDE);
        twins.refused("14: z outside ahead of of nothing", before, x -> x.drops(1, 1, 0, 0, MOST + 1), OUTSIDE);
        twins.refused("14: unknown ahead of outside", before, x -> x.drops(2, 9, 0, 0, 0), UNKNOWN);
        twins.answers("14: of one unit", x -> lightAndDark(x, 1, 9), x -> x.drops(0, 1, 500, 500, 500), 0);
    }

    private static void refusedDropsStay() {
        ColourWorks x = new ColourWorks();
        lightAndDark(x, 4, 100);
        x.drops(0, 8, 500, 500, 500);
        x.drops(0, 9, 0, 0, 0);
        x.drops(0, 8, -1, 0, 0);
        x.drops(1, 8, 0, 0, 0);
        x.drops(2, 8, 0, 0, 0);
        found("15: refused calls leave them", x, 0, 4);
        x.pour(0, 0);
        x.drops(0, 8, 0, 0, 0);
        found("15: so does that for a poured one", x, 0, 4);
        due.is("16: they are taken still", x.dropIn(1), 4);
        due.is("14: new ones take their place", x.drops(1, 8, 1000, 1000, 1000), 0);
        found("15: none of the old", x, 0, 0);
    }

    private static void dropWithout() {
        ColourWorks x = new ColourWorks();
        due.is("15: without a base", x.drop(0), UNKNOWN);
        lightAndDark(x, 4, 100);
        found("15: without drops", x, 0, 0);
        x.drops(0, 9, 500, 500, 500);
        found("15: without drops that were found", x, 0, 0);
        x.drops(0, 2, 500, 500, 500);
        found("15: with", x, 0, 2);
        due.is("15: no third base", x.drop(2), UNKNOWN);
        x.base(1, 1);
        found("15: a base that came later", x, 0, 2, 0);
    }

    private static void dropInNoneFound() {
        twins.refused("16: none were found", x -> lightAndDark(x, 4, 100), x -> x.dropIn(0), NOT);
        twins.refused("16: only refused ones", x -> {
            lightAndDark(x, 4, 100);
            x.drops(0, 9, 500, 500, 500);
            x.drops(1, 8, 500, 500, 500);
        }, x -> x.dropIn(0), NOT);
        twins.refused("16: unknown ahead of none found", x -> lightAndDark(x, 4, 100), x -> x.dropIn(2), UNKNOWN);
        twins.refused("16: none found ahead of full", x -> lightAndDark(x, 20000, 100), x -> x.dropIn(0), NOT);
        twins.answers("16: found", x -> {
            lightAndDark(x, 4, 100);
            x.drops(0, 8, 500, 500, 500);
        }, x -> x.dropIn(0), 8);
    }

    private static void dropInOfNoUnits() {
        Twins.Steps none = x -> {
            lightAndDark(x, 20000, 100);
            x.drops(0, 0, 0, 0, 0);
        };
        twins.answers("16: of no units into a full one", none, x -> x.dropIn(0), 20000);
        twins.answers("16: of no units into one of nothing", none, x -> x.dropIn(1), 0);
        ColourWorks x = new ColourWorks();
        none.on(x);
        x.dropIn(1);
        due.is("18: it is of nothing still", x.shade(1, 0), NOT);
        due.is("29: no lot came into it", x.recall(1, 1), 0);
        due.is("6: none was taken", x.may(1), 100);
        x.holds(0, 60000);
        x.pour(0, 0);
        due.is("16: not into a poured one", x.dropIn(0), NOT);
    }

    /** Three units of base 1 were found; so many are left. */
    private static void threeFound(ColourWorks x, int left) {
        lightAndDark(x, 3, left + 50);
        x.drops(0, 8, 500, 500, 500);
        x.weigh(1, 1, 50);
    }

    private static void dropInShort() {
        twins.answers("16: one more than wanted", x -> threeFound(x, 4), x -> x.dropIn(0), 6);
        twins.answers("16: just as many as wanted", x -> threeFound(x, 3), x -> x.dropIn(0), 6);
        twins.refused("16: one less than wanted", x -> threeFound(x, 2), x -> x.dropIn(0), SHORT);
        twins.refused("16: none is left", x -> threeFound(x, 0), x -> x.dropIn(0), SHORT);
        twins.refused("16: they ended", x -> {
            threeFound(x, 3);
            x.day(10);
        }, x -> x.dropIn(0), SHORT);
        twins.refused("16: one of two bases is short", x -> {
            lightAndDark(x, 3, 50);
            x.base(0, 10);
            x.band(2, 0, 20, 10);
            x.lot(2, 10, 9);
            x.drops(0, 8, 600, 400, 400);
            x.weigh(1, 2, 10);
        }, x -> x.dropIn(0), SHORT);
        ColourWorks x = new ColourWorks();
        threeFound(x, 6);
        due.is("16: in", x.dropIn(0), 6);
        due.is("16: into another one", x.dropIn(1), 53);
        due.is("16: a third time", x.dropIn(1), SHORT);
        found("15: they stay told", x, 0, 3);
    }

    private static void intoNearlyFull(ColourWorks x, int units) {
        lightAndDark(x, 3, 6);
        x.lot(0, 20000, 9);
        x.drops(0, 8, 500, 500, 500);
        x.weigh(1, 0, units);
    }

    private static void dropInUpToAll() {
        twins.answers("16: 19999 together", x -> intoNearlyFull(x, 19996), x -> x.dropIn(1), 19999);
        twins.answers("16: 20000 together", x -> intoNearlyFull(x, 19997), x -> x.dropIn(1), 20000);
        twins.refused("16: 20001 together", x -> intoNearlyFull(x, 19998), x -> x.dropIn(1), FULL);
        twins.refused("16: 20003 together", x -> intoNearlyFull(x, 20000), x -> x.dropIn(1), FULL);
        twins.refused("16: short ahead of full", x -> {
            intoNearlyFull(x, 19998);
            x.weigh(0, 1, 4);
        }, x -> x.dropIn(1), SHORT);
    }

    private static void dropInRefusedInOrder() {
        Twins.Steps full = x -> {
            intoNearlyFull(x, 20000);
            x.holds(0, 20000);
            x.pour(1, 0);
        };
        twins.refused("16: not open ahead of full", full, x -> x.dropIn(1), NOT);
        twins.refused("16: not open ahead of short", x -> {
            full.on(x);
            x.weigh(0, 1, 4);
        }, x -> x.dropIn(1), NOT);
        twins.refused("16: not open", EdgesOfDropsTest::poured, x -> x.dropIn(0), NOT);
        twins.answers("16: also another one", EdgesOfDropsTest::poured, x -> x.dropIn(1), 3);
        twins.refused("16: unknown ahead of short", x -> threeFound(x, 0), x -> x.dropIn(2), UNKNOWN);
    }
}
