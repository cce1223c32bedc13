/** Promises 1 to 7, and the constants. */
public final class BasesAndLotsTest {
    private static final int UNKNOWN = -2, OUTSIDE = -3, SHORT = -5, FULL = -6;
    private static final Due due = new Due();

    public static void main(String[] args) {
        constants();
        newObject();
        base();
        band();
        lot();
        leftAndMay();
        day();
        takingByLastDay();
        due.end();
    }

    private static void constants() {
        due.is("NONE", ColourWorks.NONE, -1);
        due.is("UNKNOWN", ColourWorks.UNKNOWN, -2);
        due.is("OUTSIDE", ColourWorks.OUTSIDE, -3);
        due.is("NOT", ColourWorks.NOT, -4);
        due.is("SHORT", ColourWorks.SHORT, -5);
        due.is("FULL", ColourWorks.FULL, -6);
    }

    private static void newObject() {
        ColourWorks x = new ColourWorks();
        for (int what = 0; what < 8; what++) {
            due.is("1: count(" + what + ")", x.count(what), 0);
        }
        for (int tank = 0; tank < 5; tank++) {
            due.is("1: units in a tank", x.tank(tank, 0), 0);
            due.is("1: a tank is clean", x.tank(tank, 1), 1);
            due.is("1: a tank is not stained", x.tank(tank, 2), 0);
            due.is("1: a tank holds", x.tank(tank, 3), 1000);
        }
        due.is("1: limit", x.limit(3), 10);
        due.is("1: cleaning", x.cleaning(5, 5, 3), 0);
        due.is("1: no base", x.may(0), UNKNOWN);
        due.is("1: no plan", x.planned(0), UNKNOWN);
    }

    private static void base() {
        ColourWorks x = new ColourWorks();
        due.is("2: a below", x.base(-1, 0), OUTSIDE);
        due.is("2: a above", x.base(1001, 0), OUTSIDE);
        due.is("2: b below", x.base(0, -1), OUTSIDE);
        due.is("2: b above", x.base(0, 1001), OUTSIDE);
        due.is("2: none was made", x.count(0), 0);
        for (int i = 0; i < 8; i++) {
            due.is("2: base " + i, x.base(i % 2 * 1000, 1000 - i % 2 * 1000), i);
        }
        due.is("2: the ninth", x.base(0, 0), FULL);
        due.is("2: outside ahead of full", x.base(0, 1001), OUTSIDE);
        due.is("2: eight", x.count(0), 8);
        ColourWorks y = new ColourWorks();
        y.base(300, 200);
        fillBatch(y, 0, 1);
        for (int band = 0; band < 3; band++) {
            due.is("2: in all bands", y.shade(0, band), 1500);
        }
    }

    private static void fillBatch(ColourWorks x, int base, int n) {
        x.lot(base, n, 10000);
        x.weigh(x.batch(), base, n);
    }

    private static void band() {
        ColourWorks x = new ColourWorks();
        x.base(10, 10);
        fillBatch(x, 0, 7);
        due.is("3: base below", x.band(-1, 0, 1, 1), UNKNOWN);
        due.is("3: base above", x.band(1, 0, 1, 1), UNKNOWN);
        due.is("3: band below", x.band(0, -1, 1, 1), UNKNOWN);
        due.is("3: band above", x.band(0, 3, 1, 1), UNKNOWN);
        due.is("3: unknown ahead of outside", x.band(0, 3, -1, 1), UNKNOWN);
        due.is("3: a below", x.band(0, 0, -1, 1), OUTSIDE);
        due.is("3: a above", x.band(0, 0, 1001, 1), OUTSIDE);
        due.is("3: b below", x.band(0, 0, 1, -1), OUTSIDE);
        due.is("3: b above", x.band(0, 0, 1, 1001), OUTSIDE);
        due.is("3: nothing changed", x.shade(0, 0), 1000);
        due.is("3: told", x.band(0, 2, 1000, 3), 1);
        due.is("3: made already, band 2", x.shade(0, 2), 333333);
        due.is("3: band 0 stays", x.shade(0, 0), 1000);
        due.is("3: band 1 stays", x.shade(0, 1), 1000);
        due.is("3: to nothing", x.band(0, 1, 0, 0), 1);
        due.is("3: the lower sum is 0", x.shade(0, 1), 1000000);
    }

    private static void lot() {
        ColourWorks x = new ColourWorks();
        due.is("4: no base", x.lot(0, 0, 0), UNKNOWN);
        x.base(1, 1);
        due.is("4: base below", x.lot(-1, 1, 1), UNKNOWN);
        due.is("4: units 0", x.lot(0, 0, 0), OUTSIDE);
        due.is("4: units above", x.lot(0, 20001, 0), OUTSIDE);
        due.is("4: last below", x.lot(0, 1, -1), OUTSIDE);
        due.is("4: last above", x.lot(0, 1, 10001), OUTSIDE);
        for (int i = 0; i < 40; i++) {
            due.is("4: lot " + i, x.lot(0, i % 2 == 0 ? 1 : 20000, i % 2 == 0 ? 0 : 10000), i);
        }
        due.is("4: the 41st", x.lot(0, 1, 1), FULL);
        due.is("4: outside ahead of full", x.lot(0, 0, 1), OUTSIDE);
        due.is("4: unknown ahead of full", x.lot(1, 1, 1), UNKNOWN);
        due.is("4: forty", x.count(1), 40);
        due.is("4: all may be taken", x.may(0), 20 * 20001);
        due.is("5: the last one", x.left(39), 20000);
    }

    private static void leftAndMay() {
        ColourWorks x = new ColourWorks();
        x.base(1, 1);
        x.base(1, 1);
        x.lot(0, 11, 2);
        x.lot(1, 13, 3);
        x.lot(0, 17, 1);
        due.is("5: below", x.left(-1), UNKNOWN);
        due.is("5: above", x.left(3), UNKNOWN);
        due.is("5: a lot", x.left(1), 13);
        due.is("6: below", x.may(-1), UNKNOWN);
        due.is("6: above", x.may(2), UNKNOWN);
        due.is("6: base 0", x.may(0), 28);
        x.day(1);
        due.is("6: on the last day", x.may(0), 28);
        x.day(1);
        due.is("6: behind the last day", x.may(0), 11);
        due.is("5: a lot that ended keeps its units", x.left(2), 17);
        x.day(1);
        due.is("6: all ended", x.may(0), 0);
        due.is("6: another base", x.may(1), 13);
        due.is("4: a lot that ended before it came", x.lot(0, 5, 0), 3);
        due.is("6: it may not be used", x.may(0), 0);
    }

    private static void day() {
        ColourWorks x = new ColourWorks();
        due.is("7: below", x.day(-1), OUTSIDE);
        due.is("7: above", x.day(1001), OUTSIDE);
        due.is("7: far above", x.day(Integer.MAX_VALUE), OUTSIDE);
        due.is("7: by none", x.day(0), 0);
        for (int i = 1; i < 10; i++) {
            due.is("7: by 1000", x.day(1000), 1000 * i);
        }
        due.is("7: by 999", x.day(999), 9999);
        due.is("7: beyond the last", x.day(2), OUTSIDE);
        due.is("7: to the last", x.day(1), 10000);
        due.is("7: beyond", x.day(1), OUTSIDE);
        due.is("7: by none at the end", x.day(0), 10000);
        x.base(1, 1);
        x.lot(0, 9, 10000);
        due.is("7: on the very last day", x.may(0), 9);
    }

    private static void takingByLastDay() {
        ColourWorks x = new ColourWorks();
        x.base(1, 1);
        x.lot(0, 5, 9);
        x.lot(0, 5, 4);
        x.lot(0, 5, 4);
        x.lot(0, 5, 0);
        x.batch();
        x.day(1);
        due.is("take: more than all", x.weigh(0, 0, 16), SHORT);
        due.is("take: none gave", x.may(0), 15);
        due.is("take: 7", x.weigh(0, 0, 7), 7);
        due.is("take: least last day, least number", x.left(1), 0);
        due.is("take: then the next number", x.left(2), 3);
        due.is("take: the later stays", x.left(0), 5);
        due.is("take: the ended stays", x.left(3), 5);
        due.is("take: a lot in it", x.recall(1, 1), 1);
        due.is("take: a lot not in it", x.recall(0, 1), 0);
        due.is("take: the rest", x.weigh(0, 0, 8), 15);
        due.is("take: nothing is left", x.weigh(0, 0, 1), SHORT);
        due.is("take: the last is in it", x.recall(0, 1), 1);
        due.is("take: the ended isn't", x.recall(3, 1), 0);
    }
}
