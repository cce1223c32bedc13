import java.lang.reflect.Method;
import java.util.ArrayList;
import java.util.Arrays;
import java.util.List;

/**
 * Each number of each call at its least and its most, one beyond either, and as far beyond as an int goes;
 * each two numbers of a call beyond together: UNKNOWN ahead of OUTSIDE. A refused call changes nothing.
 */
public final class LimitsTest {
    private static final int UNKNOWN = -2, OUTSIDE = -3;
    private static final Due due = new Due();
    private static final Twins twins = new Twins(due);

    /** The numbers that an argument may be, and how a call with another one is refused. */
    private record Range(int least, int most, int refusal) {
        List<Integer> beyond() {
            return List.of(least - 1, most + 1, Integer.MIN_VALUE, Integer.MAX_VALUE);
        }
    }

    // What Twins.rich made.
    private static final Range BASE = known(2), BAND = known(2), LOT = known(4), RECIPE = known(2), BATCH = known(6),
        TANK = known(4), DRUM = known(2), HUE = known(5), PLACE = known(2);
    private static final Range STRENGTH = number(0, 1000), AIM = number(0, 1000000);

    public static void main(String[] args) {
        basesAndLots();
        recipes();
        batches();
        tanksAndDrums();
        jobs();
        callsWithoutNumbers();
        due.end();
    }

    private static Range known(int most) {
        return new Range(0, most, UNKNOWN);
    }

    private static Range number(int least, int most) {
        return new Range(least, most, OUTSIDE);
    }

    private static Object[] given(Object... args) {
        return args;
    }

    private static void basesAndLots() {
        check(2, "base", given(10, 10), STRENGTH, STRENGTH);
        check(3, "band", given(1, 1, 5, 5), BASE, BAND, STRENGTH, STRENGTH);
        check(4, "lot", given(1, 50, 8), BASE, number(1, 20000), number(0, 10000));
        check(5, "left", given(1), LOT);
        check(6, "may", given(1), BASE);
        check(7, "day", given(1), number(0, 1000));
    }

    private static void recipes() {
        check(9, "part", given(1, false, 2, 3), RECIPE, null, BASE, number(1, 100));
        check(9, "part", given(2, true, 0, 3), RECIPE, null, known(2), number(1, 100));
        check(10, "resolved", given(1, 0), RECIPE, BASE);
    }

    private static void batches() {
        check(12, "weigh", given(3, 0, 5), BATCH, BASE, number(1, 20000));
        check(13, "brew", given(3, 0, 2), BATCH, RECIPE, number(1, 100));
        check(14, "drops", given(3, 4, 2000, 2000, 2000), BATCH, number(0, 8), AIM, AIM, AIM);
        check(15, "drop", given(1), BASE);
        check(16, "dropIn", given(3), BATCH);
        check(17, "amount", given(3, 1), BATCH, BASE);
        check(18, "shade", given(3, 1), BATCH, BAND);
        check(19, "miss", given(3, 1, 1, 1), BATCH, AIM, AIM, AIM);
    }

    private static void tanksAndDrums() {
        check(20, "holds", given(1, 700), TANK, number(1, 60000));
        check(21, "limit", given(30), number(0, 1000000));
        check(22, "pour", given(3, 0), BATCH, TANK);
        check(23, "clean", given(3), TANK);
        check(24, "fill", given(1, 5), TANK, number(1, 1000));
        check(25, "tank", given(1, 0), TANK, number(0, 3));
        check(26, "tankShade", given(1, 1), TANK, BAND);
        check(27, "drum", given(0, 0), DRUM, number(0, 4));
        check(28, "inDrum", given(0, true, 1), DRUM, null, LOT);
        check(28, "inDrum", given(0, false, 1), DRUM, null, BATCH);
        check(29, "recall", given(1, 1), LOT, number(0, 2));
    }

    private static void jobs() {
        check(30, "job", given(1, 5, 5, 5), HUE, number(1, 100), number(0, 1000), number(0, 100));
        check(31, "cleaning", given(1, 2, 3), HUE, HUE, number(0, 1000));
        check(32, "plan", given(1), HUE);
        check(33, "planned", given(1), PLACE);
        check(35, "count", given(3), number(0, 7));
    }

    private static void callsWithoutNumbers() {
        check(8, "recipe", given());
        check(11, "batch", given());
        check(34, "idle", given());
    }

    private static void check(int promise, String name, Object[] good, Range... ranges) {
        Method call = methodOf(name);
        due.is(promise + ": all within " + text(name, good), answer(call, good, rich()) >= 0 ? 1 : 0, 1);
        for (int i = 0; i < ranges.length; i++) {
            if (ranges[i] == null) {
                continue;
            }
            atTheEdges(promise, call, good, i, ranges[i]);
            for (int beyond : ranges[i].beyond()) {
                refused(promise, call, with(good, i, beyond), ranges[i].refusal);
            }
            for (int j = i + 1; j < ranges.length; j++) {
                bothBeyond(promise, call, good, List.of(i, j), Arrays.asList(ranges));
            }
        }
    }

    private static void atTheEdges(int promise, Method call, Object[] good, int at, Range range) {
        for (int edge : new int[] {range.least, range.most}) {
            if (isNoElder(call, good, at, edge)) {
                continue;
            }
            Object[] args = with(good, at, edge);
            int answer = answer(call, args, rich());
            boolean within = answer != UNKNOWN && answer != OUTSIDE;
            due.is(promise + ": within, " + text(call.getName(), args) + " answered " + answer, within ? 1 : 0, 1);
        }
    }

    /** A recipe that is there and no elder one is OUTSIDE: EdgesOfRecipesTest asks for that. */
    private static boolean isNoElder(Method call, Object[] good, int at, int edge) {
        Object[] args = with(good, at, edge);
        return call.getName().equals("part") && (boolean) args[1] && (int) args[2] >= (int) args[0];
    }

    private static void bothBeyond(int promise, Method call, Object[] good, List<Integer> at, List<Range> ranges) {
        Range first = ranges.get(at.get(0));
        Range second = ranges.get(at.get(1));
        if (second == null) {
            return;
        }
        int refusal = first.refusal == UNKNOWN || second.refusal == UNKNOWN ? UNKNOWN : OUTSIDE;
        Object[] below = with(with(good, at.get(0), first.least - 1), at.get(1), second.least - 1);
        Object[] above = with(with(good, at.get(0), first.most + 1), at.get(1), second.most + 1);
        refused(promise, call, below, refusal);
        refused(promise, call, above, refusal);
    }

    private static void refused(int promise, Method call, Object[] args, int refusal) {
        twins.refused(promise + ": " + text(call.getName(), args), Twins::rich, x -> answer(call, args, x), refusal);
    }

    private static ColourWorks rich() {
        ColourWorks x = new ColourWorks();
        Twins.rich(x);
        return x;
    }

    private static Object[] with(Object[] args, int at, int value) {
        Object[] changed = args.clone();
        changed[at] = value;
        return changed;
    }

    private static String text(String name, Object[] args) {
        List<String> texts = new ArrayList<>();
        for (Object arg : args) {
            texts.add(arg.toString());
        }
        return name + "(" + String.join(", ", texts) + ")";
    }

    private static Method methodOf(String name) {
        for (Method m : ColourWorks.class.getMethods()) {
            if (m.getName().equals(name) && m.getDeclaringClass() == ColourWorks.class) {
                return m;
            }
        }
        throw new IllegalStateException("no call " + name);
    }

    private static int answer(Method call, Object[] args, ColourWorks x) {
        try {
            return (int) call.invoke(x, args);
        } catch (ReflectiveOperationException e) {
            throw new IllegalStateException(text(call.getName(), args), e);
        }
    }
}
