import java.lang.reflect.InvocationTargetException;
import java.lang.reflect.Method;
import java.util.ArrayList;
import java.util.Arrays;
import java.util.Comparator;
import java.util.HashMap;
import java.util.List;
import java.util.Map;
import java.util.Random;

/** Long runs of seeded calls, each answer compared with that of PlainModel. */
public final class ModelTest {
    private static final int RUNS = 400, CALLS = 512;
    private static final int[] EDGES = {Integer.MIN_VALUE, -20000, -2, 1 << 20, 1000001, 1 << 30, Integer.MAX_VALUE};
    private static final Map<String, int[]> LIMITS = limits();
    private static final List<Method> works = new ArrayList<>();
    private static final List<Method> model = new ArrayList<>();
    private static int wrong = 0;

    public static void main(String[] args) throws Exception {
        pairMethods();
        int calls = 0;
        int accepted = 0;
        for (int run = 0; run < RUNS && wrong == 0; run++) {
            accepted += oneRun(run);
            calls += CALLS;
        }
        System.out.println(calls + " calls, " + accepted + " not refused, " + wrong + " not as the model");
        if (wrong != 0 || accepted < calls / 4) {
            System.exit(1);
        }
    }

    private static Map<String, int[]> limits() {
        Map<String, int[]> all = new HashMap<>();
        tellLimits(all, "base", new int[] {0, 1000}, new int[] {0, 1000});
        tellLimits(all, "band", null, new int[] {0, 2}, new int[] {0, 1000}, new int[] {0, 1000});
        tellLimits(all, "lot", null, new int[] {1, 20000}, new int[] {0, 10000});
        tellLimits(all, "part", null, null, null, new int[] {1, 100});
        tellLimits(all, "weigh", null, null, new int[] {1, 20000});
        tellLimits(all, "brew", null, null, new int[] {1, 100});
        int[] aim = {0, 1000000};
        tellLimits(all, "drops", null, new int[] {0, 8}, aim, aim, aim);
        tellLimits(all, "miss", null, aim, aim, aim);
        tellLimits(all, "holds", null, new int[] {1, 60000});
        tellLimits(all, "limit", aim);
        tellLimits(all, "fill", null, new int[] {1, 1000});
        tellLimits(all, "job", null, new int[] {1, 100}, new int[] {0, 1000}, new int[] {0, 100});
        tellLimits(all, "cleaning", null, null, new int[] {0, 1000});
        return all;
    }

    private static void tellLimits(Map<String, int[]> all, String name, int[]... ofEach) {
        for (int i = 0; i < ofEach.length; i++) {
            if (ofEach[i] != null) {
                all.put(name + i, ofEach[i]);
            }
        }
    }

    private static void pairMethods() throws Exception {
        Method[] all = ColourWorks.class.getDeclaredMethods();
        Arrays.sort(all, Comparator.comparing(Method::getName));
        for (Method m : all) {
            if ((m.getModifiers() & java.lang.reflect.Modifier.PUBLIC) != 0) {
                works.add(m);
                model.add(PlainModel.class.getDeclaredMethod(m.getName(), m.getParameterTypes()));
            }
        }
        if (works.size() != 34) {
            System.out.println(works.size() + " public methods, due are 34");
            wrong++;
        }
    }

    private static int oneRun(int run) throws Exception {
        Random random = new Random(run);
        ColourWorks x = new ColourWorks();
        PlainModel y = new PlainModel();
        List<String> told = new ArrayList<>();
        int accepted = 0;
        boolean dear = run % 10 == 0;
        for (int i = 0; i < CALLS; i++) {
            int which = chosen(random, run, i, dear);
            Object[] given = run % 5 == 4 && random.nextInt(3) == 0
                ? edgeArguments(works.get(which), random, run % 4)
                : arguments(works.get(which), random, run % 4);
            int want = (int) model.get(which).invoke(y, given);
            String call = works.get(which).getName() + Arrays.toString(given);
            told.add(call + " = " + want);
            String got = answer(works.get(which), x, given);
            if (!got.equals(String.valueOf(want))) {
                wrong++;
                System.out.println("run " + run + ": " + call + " answered " + got + ", due is " + want);
                told.forEach(System.out::println);
                return accepted;
            }
            if (want >= 0) {
                accepted++;
            }
        }
        return accepted;
    }

    private static String answer(Method m, ColourWorks x, Object[] given) throws Exception {
        try {
            return m.invoke(x, given).toString();
        } catch (InvocationTargetException e) {
            return "by throwing " + e.getCause();
        }
    }

    /** Things are made first, so that the calls find them; orders of eight jobs are tried in some runs alone. */
    private static int chosen(Random random, int run, int i, boolean dear) {
        String[] early = {"base", "lot", "batch", "recipe", "part", "weigh", "band", "job", "cleaning"};
        String[] late = {"weigh", "brew", "pour", "fill", "drops", "dropIn", "lot", "tank", "limit", "part"};
        if (i < 6) {
            return indexOf("base");
        }
        if (i < 80 || random.nextInt(3) > 0) {
            String[] of = i < 80 ? early : late;
            return indexOf(of[random.nextInt(of.length)]);
        }
        int which = random.nextInt(works.size());
        String name = works.get(which).getName();
        boolean skip = name.equals("job") && !dear || name.equals("day") && random.nextInt(3) > 0;
        return skip ? indexOf("idle") : which;
    }

    private static int indexOf(String name) {
        for (int i = 0; i < works.size(); i++) {
            if (works.get(i).getName().equals(name)) {
                return i;
            }
        }
        return 0;
    }

    private static Object[] arguments(Method m, Random random, int size) {
        Object[] given = new Object[m.getParameterCount()];
        for (int i = 0; i < given.length; i++) {
            given[i] = m.getParameterTypes()[i] == boolean.class
                ? (Object) random.nextBoolean()
                : (Object) number(m.getName(), i, random, size);
        }
        return given;
    }

    /** As arguments, but one of the numbers is at a limit of the document, or one beside it. */
    private static Object[] edgeArguments(Method m, Random random, int size) {
        Object[] given = arguments(m, random, size);
        for (int turn = 0; turn < 2 && given.length > 0; turn++) {
            int at = random.nextInt(given.length);
            int[] limits = LIMITS.get(m.getName() + at);
            if (limits != null) {
                given[at] = limits[random.nextInt(2)] + random.nextInt(3) - 1;
            }
        }
        return given;
    }

    private static int number(String name, int at, Random random, int size) {
        if (random.nextInt(120) == 0) {
            return EDGES[random.nextInt(EDGES.length)];
        }
        int amount = new int[] {5, 60, 600, 9000}[size];
        switch (name + at) {
            case "base0": case "base1": case "band2": case "band3":
                return size % 2 == 0 ? random.nextInt(5) : random.nextInt(1003) - 1;
            case "lot1": case "weigh2":
                return random.nextInt(amount * (name.equals("lot") ? 4 : 1));
            case "lot2":
                return random.nextInt(60);
            case "day0":
                return random.nextInt(8) - 1;
            case "drops1":
                return random.nextInt(11) - 1;
            case "drops2": case "drops3": case "drops4": case "miss1": case "miss2": case "miss3":
                return random.nextInt(size % 2 == 0 ? 3000 : 5000);
            case "holds1":
                return 1 + random.nextInt(amount * 8);
            case "limit0":
                return random.nextInt(4000);
            case "fill1":
                return 1 + random.nextInt(Math.min(amount, 1000));
            case "job1": case "job3": case "cleaning2":
                return random.nextInt(size % 2 == 0 ? 4 : 102);
            case "job2":
                return random.nextInt(size % 2 == 0 ? 20 : 400);
            case "part3": case "brew2":
                return random.nextInt(size % 2 == 0 ? 4 : 102);
            case "band1": case "shade1": case "tankShade1": case "recall1":
                return random.nextInt(4);
            default:
                return index(name, at, random);
        }
    }

    private static int index(String name, int at, Random random) {
        boolean ofBatch = at == 0 && List.of("weigh", "brew", "drops", "dropIn", "amount", "shade", "miss", "pour").contains(name);
        boolean ofLot = at == 0 && List.of("left", "recall").contains(name);
        boolean ofDrum = at == 0 && List.of("drum", "inDrum").contains(name);
        int most = ofBatch ? 16 : ofLot ? 30 : ofDrum ? 20 : 7;
        return random.nextInt(most + 2) - 1;
    }
}
