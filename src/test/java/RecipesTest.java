/** Promises 8 to 10, and 13. */
public final class RecipesTest {
    private static final int UNKNOWN = -2, OUTSIDE = -3, NOT = -4, SHORT = -5, FULL = -6;
    private static final Due due = new Due();

    public static void main(String[] args) {
        recipe();
        partRefused();
        partsOfBases();
        partsOfElders();
        tooMuch();
        resolved();
        brewRefused();
        brew();
        brewToTheEdge();
        due.end();
    }

    private static ColourWorks works(int bases, int recipes) {
        ColourWorks x = new ColourWorks();
        for (int i = 0; i < bases; i++) {
            x.base(10, 10);
        }
        for (int i = 0; i < recipes; i++) {
            x.recipe();
        }
        return x;
    }

    private static void recipe() {
        ColourWorks x = new ColourWorks();
        for (int i = 0; i < 12; i++) {
            due.is("8: recipe " + i, x.recipe(), i);
        }
        due.is("8: the 13th", x.recipe(), FULL);
        due.is("8: twelve", x.count(2), 12);
    }

    private static void partRefused() {
        ColourWorks x = works(3, 2);
        due.is("9: recipe below", x.part(-1, false, 0, 1), UNKNOWN);
        due.is("9: recipe above", x.part(2, false, 0, 1), UNKNOWN);
        due.is("9: base below", x.part(0, false, -1, 1), UNKNOWN);
        due.is("9: base above", x.part(0, false, 3, 1), UNKNOWN);
        due.is("9: elder below", x.part(1, true, -1, 1), UNKNOWN);
        due.is("9: elder above, though a base is", x.part(1, true, 2, 1), UNKNOWN);
        due.is("9: unknown ahead of outside", x.part(0, false, 3, 0), UNKNOWN);
        due.is("9: n 0", x.part(0, false, 0, 0), OUTSIDE);
        due.is("9: n above", x.part(0, false, 0, 101), OUTSIDE);
        due.is("9: itself", x.part(1, true, 1, 1), OUTSIDE);
        due.is("9: a younger one", x.part(0, true, 1, 1), OUTSIDE);
        due.is("9: n of an elder 0", x.part(1, true, 0, 0), OUTSIDE);
        due.is("9: n of an elder above", x.part(1, true, 0, 101), OUTSIDE);
        due.is("9: nothing changed", x.part(0, false, 2, 100), 1);
        due.is("9: base 2 though no recipe 2", x.resolved(0, 2), 100);
    }

    private static void partsOfBases() {
        ColourWorks x = works(8, 1);
        for (int i = 1; i <= 6; i++) {
            due.is("9: part " + i, x.part(0, false, i % 2 * 7, i), i);
        }
        due.is("9: the seventh", x.part(0, false, 0, 1), FULL);
        due.is("9: outside ahead of full", x.part(0, false, 0, 0), OUTSIDE);
        due.is("10: base 0", x.resolved(0, 0), 2 + 4 + 6);
        due.is("10: base 7", x.resolved(0, 7), 1 + 3 + 5);
        due.is("10: base 1", x.resolved(0, 1), 0);
    }

    private static void partsOfElders() {
        ColourWorks x = works(2, 4);
        due.is("9: an elder one of nothing", x.part(2, true, 0, 5), 1);
        due.is("9: again", x.part(2, true, 0, 2), 2);
        due.is("9: of that", x.part(3, true, 2, 3), 1);
        due.is("9: base beside", x.part(3, false, 1, 4), 2);
        due.is("10: nothing yet", x.resolved(2, 0), 0);
        due.is("9: the elder gets a part", x.part(0, false, 0, 11), 1);
        due.is("10: itself", x.resolved(0, 0), 11);
        due.is("10: made of it", x.resolved(2, 0), 77);
        due.is("10: made of that", x.resolved(3, 0), 231);
        due.is("10: the base beside", x.resolved(3, 1), 4);
        due.is("10: not made of it", x.resolved(1, 0), 0);
    }

    private static void tooMuch() {
        ColourWorks x = works(2, 12);
        x.part(0, false, 0, 100);
        due.is("9: 10000", x.part(1, true, 0, 100), 1);
        due.is("9: 20000", x.part(1, true, 0, 100), 2);
        due.is("9: 20001", x.part(1, false, 1, 1), FULL);
        due.is("9: a younger above 20000", x.part(0, false, 1, 1), FULL);
        due.is("10: nothing changed", x.resolved(0, 1), 0);
        due.is("10: nothing changed in the younger", x.resolved(1, 0), 20000);
        due.is("10: nor of base 1", x.resolved(1, 1), 0);
        due.is("9: another with all of it", x.part(2, true, 1, 1), 1);
        due.is("9: twice that", x.part(3, true, 1, 2), FULL);
        due.is("9: 100 times", x.part(3, true, 1, 100), FULL);
        for (int i = 3; i < 12; i++) {
            due.is("9: a long chain", x.part(i, true, i - 1, 1), 1);
        }
        due.is("10: through the chain", x.resolved(11, 0), 20000);
        due.is("9: the last stands in the way", x.part(11, false, 0, 1), FULL);
        ColourWorks y = works(1, 12);
        for (int i = 1; i < 12; i++) {
            due.is("9: 100 times nothing", y.part(i, true, i - 1, 100), 1);
        }
        due.is("9: 100 to the eleventh", y.part(0, false, 0, 1), FULL);
        due.is("10: still nothing", y.resolved(11, 0), 0);
        due.is("9: half of the chain can't", y.part(9, false, 0, 3), FULL);
        due.is("9: its end can", y.part(9, false, 0, 2), 2);
        due.is("10: its end", y.resolved(11, 0), 20000);
        due.is("10: ahead of its end", y.resolved(10, 0), 200);
    }

    private static void resolved() {
        ColourWorks x = works(1, 1);
        due.is("10: recipe below", x.resolved(-1, 0), UNKNOWN);
        due.is("10: recipe above", x.resolved(1, 0), UNKNOWN);
        due.is("10: base below", x.resolved(0, -1), UNKNOWN);
        due.is("10: base above", x.resolved(0, 1), UNKNOWN);
        due.is("10: of nothing", x.resolved(0, 0), 0);
        x.base(1, 1);
        due.is("10: a base that came later", x.resolved(0, 1), 0);
    }

    private static void brewRefused() {
        ColourWorks x = works(2, 3);
        x.batch();
        x.part(0, false, 0, 2);
        x.part(2, true, 1, 9);
        due.is("13: batch below", x.brew(-1, 0, 1), UNKNOWN);
        due.is("13: batch above", x.brew(1, 0, 1), UNKNOWN);
        due.is("13: recipe below", x.brew(0, -1, 1), UNKNOWN);
        due.is("13: recipe above", x.brew(0, 3, 1), UNKNOWN);
        due.is("13: unknown ahead of outside", x.brew(0, 3, 0), UNKNOWN);
        due.is("13: n 0", x.brew(0, 0, 0), OUTSIDE);
        due.is("13: n above", x.brew(0, 0, 101), OUTSIDE);
        due.is("13: outside ahead of not", x.brew(0, 1, 0), OUTSIDE);
        due.is("13: a recipe without parts", x.brew(0, 1, 1), NOT);
        due.is("13: a recipe of nothings", x.brew(0, 2, 1), NOT);
        due.is("13: no lot", x.brew(0, 0, 1), SHORT);
        x.lot(0, 100, 9);
        due.is("13: twice", x.brew(0, 0, 2), 4);
        due.is("13: poured", x.pour(0, 0), 4);
        due.is("13: not open", x.brew(0, 0, 1), NOT);
        due.is("13: not ahead of short", x.brew(0, 0, 100), NOT);
        due.is("13: outside ahead of not open", x.brew(0, 0, 101), OUTSIDE);
    }

    private static void brew() {
        ColourWorks x = works(3, 2);
        x.part(0, false, 0, 3);
        x.part(1, true, 0, 2);
        x.part(1, false, 2, 5);
        x.lot(0, 10, 5);
        x.lot(0, 10, 1);
        x.lot(2, 9, 5);
        x.lot(1, 9, 5);
        x.batch();
        due.is("13: base 2 is short", x.brew(0, 1, 2), SHORT);
        due.is("13: base 0 gave nothing", x.may(0), 20);
        due.is("13: base 2 gave nothing", x.may(2), 9);
        due.is("13: nor has it a lot", x.recall(1, 1), 0);
        due.is("13: once", x.brew(0, 1, 1), 11);
        due.is("13: amount 0", x.amount(0, 0), 6);
        due.is("13: amount 1", x.amount(0, 1), 0);
        due.is("13: amount 2", x.amount(0, 2), 5);
        due.is("13: the lot of the least last day", x.left(1), 4);
        due.is("13: three more", x.brew(0, 0, 3), 20);
        due.is("13: the next lot", x.left(0), 5);
        due.is("13: lots in it", x.recall(0, 1) + x.recall(1, 1) + x.recall(2, 1) + x.recall(3, 1), 3);
    }

    private static void brewToTheEdge() {
        ColourWorks x = works(1, 2);
        x.part(0, false, 0, 100);
        x.part(0, false, 0, 100);
        x.lot(0, 20000, 9);
        x.batch();
        due.is("13: 20000", x.brew(0, 0, 100), 20000);
        due.is("13: short ahead of full", x.brew(0, 0, 1), SHORT);
        x.lot(0, 20000, 9);
        due.is("13: 20200", x.brew(0, 0, 1), FULL);
        due.is("13: nothing changed", x.left(1), 20000);
        due.is("13: amount stays", x.amount(0, 0), 20000);
        x.part(1, true, 0, 100);
        due.is("13: two millions", x.brew(0, 1, 100), SHORT);
    }
}
