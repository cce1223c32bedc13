import java.util.ArrayList;
import java.util.List;

/**
 * Two works that were told the same; one gets a call more, which is refused: then both must answer alike.
 * The looks go on with calls that change things, so that what no call tells outright is seen as well;
 * each look has works of its own and stays, with what was told before, within the 512 calls of an object.
 */
final class Twins {
    interface Steps {
        void on(ColourWorks x);
    }

    interface Call {
        int on(ColourWorks x);
    }

    private interface Look {
        void at(ColourWorks x, List<String> told);
    }

    private static final List<Look> LOOKS = List.of(
        Twins::lookAtStock, Twins::lookAtAmounts, Twins::lookAtDrums, Twins::lookAtTellings,
        Twins::lookAtJobs, Twins::lookAtPouring, Twins::lookAtDays);

    private final Due due;

    Twins(Due due) {
        this.due = due;
    }

    void refused(String what, Steps before, Call call, int want) {
        for (Look look : LOOKS) {
            ColourWorks untouched = told(before);
            ColourWorks touched = told(before);
            due.is(what, call.on(touched), want);
            due.same(what, rows(look, touched), rows(look, untouched));
        }
    }

    void answers(String what, Steps before, Call call, int want) {
        due.is(what, call.on(told(before)), want);
    }

    private static ColourWorks told(Steps before) {
        ColourWorks x = new ColourWorks();
        before.on(x);
        return x;
    }

    private static List<String> rows(Look look, ColourWorks x) {
        List<String> told = new ArrayList<>();
        look.at(x, told);
        return told;
    }

    /**
     * A works with some of all there is. Tank 0 is clean, 1 has units, 2 has units and a drum was filled of it,
     * 3 is stained, 4 was made clean; batches 3 (base 1), 4 (nothing) and 5 (recipe 1) are open; recipe 2 is of nothing.
     */
    static void rich(ColourWorks x) {
        x.base(10, 10);
        x.base(30, 10);
        x.base(5, 10);
        x.band(2, 1, 7, 9);
        x.lot(0, 500, 9);
        x.lot(0, 300, 4);
        x.lot(1, 400, 9);
        x.lot(2, 60, 6);
        x.lot(2, 40, 1);
        x.day(2);
        x.recipe();
        x.recipe();
        x.recipe();
        x.part(0, false, 0, 3);
        x.part(0, false, 1, 2);
        x.part(1, true, 0, 5);
        x.part(1, false, 2, 4);
        richTanks(x);
        richJobs(x);
    }

    private static void richTanks(ColourWorks x) {
        int[][] weighed = {{0, 100}, {1, 50}, {0, 30}, {1, 20}};
        for (int[] of : weighed) {
            x.weigh(x.batch(), of[0], of[1]);
        }
        x.batch();
        x.brew(x.batch(), 1, 1);
        x.weigh(x.batch(), 0, 10);
        x.limit(25);
        x.holds(0, 700);
        x.pour(0, 1);
        x.pour(1, 2);
        x.fill(2, 20);
        x.pour(2, 3);
        x.fill(3, 30);
        x.pour(6, 4);
        x.fill(4, 10);
        x.clean(4);
        x.drops(3, 4, 2500, 2400, 2500);
    }

    private static void richJobs(ColourWorks x) {
        x.job(1, 10, 5, 2);
        x.job(0, 7, 3, 9);
        x.job(5, 2, 0, 4);
        x.cleaning(1, 0, 12);
        x.cleaning(0, 5, 7);
        x.cleaning(2, 2, 3);
        x.plan(1);
    }

    private static void tell(List<String> told, String call, int answer) {
        told.add(call + " = " + answer);
    }

    private static void lookAtStock(ColourWorks x, List<String> told) {
        for (int i = 0; i < 8; i++) {
            tell(told, "count " + i, x.count(i));
            tell(told, "may " + i, x.may(i));
            tell(told, "drop " + i, x.drop(i));
            tell(told, "planned " + i, x.planned(i));
        }
        for (int lot = 0; lot < 40; lot++) {
            tell(told, "left " + lot, x.left(lot));
            for (int way = 0; way < 3; way++) {
                tell(told, "recall " + lot + ", " + way, x.recall(lot, way));
            }
        }
        for (int tank = 0; tank < 5; tank++) {
            for (int what = 0; what < 4; what++) {
                tell(told, "tank " + tank + ", " + what, x.tank(tank, what));
            }
            for (int band = 0; band < 3; band++) {
                tell(told, "tankShade " + tank + ", " + band, x.tankShade(tank, band));
            }
        }
    }

    private static void lookAtAmounts(ColourWorks x, List<String> told) {
        for (int batch = 0; batch < 24; batch++) {
            for (int base = 0; base < 8; base++) {
                tell(told, "amount " + batch + ", " + base, x.amount(batch, base));
            }
            for (int band = 0; band < 3; band++) {
                tell(told, "shade " + batch + ", " + band, x.shade(batch, band));
            }
        }
        for (int i = 0; i < 24; i++) {
            tell(told, "resolved " + i / 8 + ", " + i % 8, x.resolved(i / 8, i % 8));
            tell(told, "resolved " + (11 - i / 8) + ", " + i % 8, x.resolved(11 - i / 8, i % 8));
        }
    }

    private static void lookAtDrums(ColourWorks x, List<String> told) {
        int[] drums = {0, 1, 2, 3, 99};
        for (int drum : drums) {
            for (int what = 0; what < 5; what++) {
                tell(told, "drum " + drum + ", " + what, x.drum(drum, what));
            }
            for (int lot = 0; lot < 40; lot++) {
                tell(told, "lot in drum " + drum + ", " + lot, x.inDrum(drum, true, lot));
            }
            for (int batch = 0; batch < 24; batch++) {
                tell(told, "batch in drum " + drum + ", " + batch, x.inDrum(drum, false, batch));
            }
        }
    }

    private static void lookAtTellings(ColourWorks x, List<String> told) {
        tell(told, "limit", x.limit(0));
        for (int tank = 0; tank < 5; tank++) {
            tell(told, "holds " + tank, x.holds(tank, 60000));
        }
        for (int i = 0; i < 84; i++) {
            tell(told, "part of " + i / 7, x.part(i / 7, false, 0, 1));
        }
        for (int i = 0; i < 12; i++) {
            tell(told, "resolved " + i, x.resolved(i, 0));
        }
        tell(told, "recipe", x.recipe());
        tell(told, "batch", x.batch());
        tell(told, "base", x.base(1, 1));
        tell(told, "lot", x.lot(0, 7, 9));
        tell(told, "fill", x.fill(1, 1));
    }

    private static void lookAtJobs(ColourWorks x, List<String> told) {
        for (int turn = 0; turn < 2; turn++) {
            for (int hue = 0; hue < 6; hue++) {
                tell(told, "plan " + hue, x.plan(hue));
                for (int i = 0; i < 9; i++) {
                    tell(told, "planned " + i, x.planned(i));
                }
            }
            for (int i = 0; i < 36; i++) {
                tell(told, "cleaning " + i, x.cleaning(i / 6, i % 6, 0));
            }
        }
        tell(told, "job", x.job(0, 1, 1, 1));
        tell(told, "idle", x.idle());
    }

    private static void lookAtPouring(ColourWorks x, List<String> told) {
        for (int batch = 0; batch < 24; batch++) {
            tell(told, "dropIn " + batch, x.dropIn(batch));
            tell(told, "weigh " + batch, x.weigh(batch, 0, 1));
            for (int tank = 4; tank >= 0; tank--) {
                tell(told, "pour " + batch + ", " + tank, x.pour(batch, tank));
            }
        }
        for (int tank = 0; tank < 5; tank++) {
            tell(told, "fill " + tank, x.fill(tank, 10));
            tell(told, "clean " + tank, x.clean(tank));
        }
    }

    private static void lookAtDays(ColourWorks x, List<String> told) {
        for (int i = 0; i < 14; i++) {
            for (int base = 0; base < 8; base++) {
                tell(told, "may " + base, x.may(base));
            }
            tell(told, "weigh", x.weigh(3, i % 3, 1));
            tell(told, "left", x.left(0));
            tell(told, "day", x.day(1));
        }
        tell(told, "day", x.day(1000));
        tell(told, "day", x.day(0));
    }
}
