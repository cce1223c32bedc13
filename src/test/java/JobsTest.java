/** Promises 30 to 35. */
public final class JobsTest {
    private static final int UNKNOWN = -2, OUTSIDE = -3, FULL = -6;
    private static final Due due = new Due();

    public static void main(String[] args) {
        job();
        cleaning();
        planOfNone();
        planByLateness();
        planOfLatePlaces();
        planByCleaning();
        planOfEquals();
        planOfEight();
        planStays();
        idle();
        count();
        due.end();
    }

    private static void job() {
        ColourWorks x = new ColourWorks();
        due.is("30: hue below", x.job(-1, 1, 0, 0), UNKNOWN);
        due.is("30: unknown ahead of outside", x.job(6, 0, 0, 0), UNKNOWN);
        due.is("30: time 0", x.job(0, 0, 0, 0), OUTSIDE);
        due.is("30: time above", x.job(0, 101, 0, 0), OUTSIDE);
        due.is("30: due below", x.job(0, 1, -1, 0), OUTSIDE);
        due.is("30: due above", x.job(0, 1, 1001, 0), OUTSIDE);
        due.is("30: price below", x.job(0, 1, 0, -1), OUTSIDE);
        due.is("30: price above", x.job(0, 1, 0, 101), OUTSIDE);
        due.is("30: none came", x.count(5), 0);
        for (int i = 0; i < 8; i++) {
            due.is("30: job " + i, i % 2 == 0 ? x.job(0, 1, 0, 0) : x.job(5, 100, 1000, 100), i);
        }
        due.is("30: the ninth", x.job(0, 1, 0, 0), FULL);
        due.is("30: outside ahead of full", x.job(0, 0, 0, 0), OUTSIDE);
        due.is("30: unknown ahead of full", x.job(6, 1, 0, 0), UNKNOWN);
        due.is("30: eight", x.count(5), 8);
    }

    private static void cleaning() {
        ColourWorks x = new ColourWorks();
        due.is("31: from below", x.cleaning(-1, 0, 1), UNKNOWN);
        due.is("31: from above", x.cleaning(6, 0, 1), UNKNOWN);
        due.is("31: to below", x.cleaning(0, -1, 1), UNKNOWN);
        due.is("31: unknown ahead of outside", x.cleaning(0, 6, -1), UNKNOWN);
        due.is("31: v below", x.cleaning(0, 0, -1), OUTSIDE);
        due.is("31: v above", x.cleaning(0, 0, 1001), OUTSIDE);
        for (int i = 0; i < 36; i++) {
            due.is("31: 0 at first", x.cleaning(i / 6, i % 6, i * 20), 0);
        }
        for (int i = 0; i < 36; i++) {
            due.is("31: what it was", x.cleaning(i / 6, i % 6, 1000), i * 20);
        }
        due.is("31: the most", x.cleaning(5, 5, 0), 1000);
    }

    private static void planOfNone() {
        ColourWorks x = new ColourWorks();
        due.is("33: none was made", x.planned(0), UNKNOWN);
        due.is("32: below", x.plan(-1), UNKNOWN);
        due.is("32: above", x.plan(6), UNKNOWN);
        x.cleaning(0, 0, 9);
        due.is("32: without jobs", x.plan(0), 0);
        due.is("33: still none", x.planned(0), UNKNOWN);
    }

    private static void planned(ColourWorks x, int... jobs) {
        for (int i = 0; i < jobs.length; i++) {
            due.is("33: place " + i, x.planned(i), jobs[i]);
        }
        due.is("33: behind the last", x.planned(jobs.length), UNKNOWN);
        due.is("33: ahead of the first", x.planned(-1), UNKNOWN);
    }

    private static void planByLateness() {
        ColourWorks x = new ColourWorks();
        x.job(0, 10, 10, 1);
        due.is("32: just in time", x.plan(3), 0);
        x.job(0, 10, 10, 2);
        due.is("32: the dearer first", x.plan(3), 10);
        planned(x, 1, 0);
        x.job(0, 100, 9, 100);
        due.is("32: the dearest first", x.plan(3), 9100 + 200 + 110);
        planned(x, 2, 1, 0);
    }

    private static void planOfLatePlaces() {
        ColourWorks x = new ColourWorks();
        x.job(0, 50, 1000, 1);
        x.job(0, 10, 70, 1);
        x.job(0, 10, 60, 1);
        x.job(0, 20, 20, 9);
        due.is("32: the last place is for what is never due", x.plan(0), 0);
        planned(x, 3, 1, 2, 0);
        x.job(0, 30, 90, 2);
        x.job(0, 30, 60, 2);
        due.is("32: all are done in time but one", x.plan(0), 20);
        planned(x, 3, 2, 5, 1, 4, 0);
    }

    private static void planByCleaning() {
        ColourWorks x = new ColourWorks();
        x.cleaning(0, 1, 100);
        x.cleaning(1, 2, 1);
        x.cleaning(2, 1, 50);
        x.cleaning(0, 2, 20);
        x.cleaning(1, 1, 3);
        x.job(1, 5, 1000, 0);
        x.job(2, 5, 1000, 0);
        x.job(1, 5, 1000, 0);
        due.is("32: from hue 0", x.plan(0), 20 + 50 + 3);
        planned(x, 1, 0, 2);
        due.is("32: from hue 1", x.plan(1), 3 + 3 + 1);
        planned(x, 0, 2, 1);
        due.is("32: from hue 5", x.plan(5), 3 + 1);
        planned(x, 0, 2, 1);
    }

    private static void planOfEquals() {
        ColourWorks x = new ColourWorks();
        for (int i = 0; i < 8; i++) {
            x.job(i % 3, 1 + i, 1000, 100);
        }
        due.is("32: all cost nothing", x.plan(0), 0);
        planned(x, 0, 1, 2, 3, 4, 5, 6, 7);
        for (int hue = 0; hue < 3; hue++) {
            x.cleaning(hue, (hue + 1) % 3, 1);
            x.cleaning(hue, (hue + 2) % 3, 1);
        }
        due.is("32: by hues", x.plan(0), 2);
        planned(x, 0, 3, 6, 1, 4, 7, 2, 5);
        due.is("32: by hues from the last", x.plan(2), 2);
        planned(x, 2, 5, 0, 3, 6, 1, 4, 7);
    }

    private static void planOfEight() {
        ColourWorks x = new ColourWorks();
        for (int i = 0; i < 36; i++) {
            x.cleaning(i / 6, i % 6, 1000);
        }
        for (int i = 0; i < 8; i++) {
            x.job(i % 6, 100, 0, 100);
        }
        due.is("32: the dearest of all", x.plan(0), 8 * 1000 + 100 * 100 * 36);
        planned(x, 0, 1, 2, 3, 4, 5, 6, 7);
    }

    private static void planStays() {
        ColourWorks x = new ColourWorks();
        x.job(0, 10, 0, 1);
        x.job(0, 10, 0, 2);
        x.plan(0);
        x.job(0, 1, 0, 100);
        x.cleaning(0, 0, 5);
        planned(x, 1, 0);
        due.is("32: a refused plan", x.plan(6), UNKNOWN);
        planned(x, 1, 0);
        x.idle();
        planned(x, 1, 0);
        x.job(3, 1, 1, 1);
        due.is("32: anew", x.plan(3), 0);
        planned(x, 0);
        x.idle();
        due.is("32: of none", x.plan(3), 0);
        planned(x);
    }

    private static void idle() {
        ColourWorks x = new ColourWorks();
        due.is("34: none", x.idle(), 0);
        for (int i = 0; i < 8; i++) {
            x.job(1, 100, 0, 100);
        }
        x.cleaning(1, 2, 33);
        due.is("34: eight", x.idle(), 8);
        due.is("34: they are gone", x.idle(), 0);
        due.is("35: no jobs", x.count(5), 0);
        due.is("30: from 0 again", x.job(2, 5, 3, 7), 0);
        due.is("32: of the new one alone, cleaning stays", x.plan(1), 33 + 14);
    }

    private static void count() {
        ColourWorks x = new ColourWorks();
        due.is("35: below", x.count(-1), OUTSIDE);
        due.is("35: above", x.count(8), OUTSIDE);
        for (int i = 0; i < 5; i++) {
            x.base(1, 1);
        }
        for (int i = 0; i < 4; i++) {
            x.recipe();
        }
        for (int i = 0; i < 3; i++) {
            x.weigh(x.batch(), 0, 1 + x.lot(0, 50, 9));
            x.pour(i, i);
        }
        for (int i = 0; i < 6; i++) {
            x.lot(1, 1, 1);
            x.job(0, 1, 1, 1);
        }
        x.fill(0, 1);
        x.fill(2, 1);
        x.clean(0);
        x.day(8);
        int[] want = {5, 9, 4, 3, 2, 6, 8, 1};
        for (int what = 0; what < 8; what++) {
            due.is("35: count(" + what + ")", x.count(what), want[what]);
        }
    }
}
