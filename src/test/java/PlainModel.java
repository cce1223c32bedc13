import java.util.ArrayList;
import java.util.Arrays;
import java.util.List;
import java.util.Set;
import java.util.TreeMap;
import java.util.Map;
import java.util.TreeSet;

/** The document once more, slow and plain: drops and plans by trying all of them recursively, recipes by walking their parts. */
final class PlainModel {
    static final int UNKNOWN = -2, OUTSIDE = -3, NOT = -4, SHORT = -5, FULL = -6;

    private static final class Lot {
        int base;
        int units;
        int last;
    }

    private static final class Part {
        boolean elder;
        int which;
        int n;
    }

    private static class Pot {
        final Map<Integer, Integer> amounts = new TreeMap<>();
        final Set<Integer> lots = new TreeSet<>();

        int units() {
            return amounts.values().stream().mapToInt(Integer::intValue).sum();
        }
    }

    private static final class Batch extends Pot {
        boolean open = true;
    }

    private static final class Tank {
        List<Batch> came = new ArrayList<>();
        Set<Integer> numbers = new TreeSet<>();
        int drawn = 0;
        int holds = 1000;
        int[] stain = null;

        Pot all() {
            Pot pot = new Pot();
            for (Batch b : came) {
                b.amounts.forEach((k, v) -> pot.amounts.merge(k, v, Integer::sum));
                pot.lots.addAll(b.lots);
            }
            return pot;
        }

        int inside() {
            return all().units() - drawn;
        }

        boolean clean() {
            return came.isEmpty() && stain == null;
        }
    }

    private static final class Drum {
        int units;
        int tank;
        int day;
        Set<Integer> batches;
        Set<Integer> lots;
    }

    private final List<int[][]> bases = new ArrayList<>();
    private final List<Lot> lots = new ArrayList<>();
    private final List<List<Part>> recipes = new ArrayList<>();
    private final List<Batch> batches = new ArrayList<>();
    private final List<Tank> tanks = new ArrayList<>();
    private final List<Drum> drums = new ArrayList<>();
    private final List<int[]> jobs = new ArrayList<>();
    private final int[][] changes = new int[6][6];
    private List<Integer> plan = new ArrayList<>();
    private int planCost;
    private int[] found = null;
    private int foundMiss;
    private int day = 0;
    private int limit = 10;
    private int cleaned = 0;

    PlainModel() {
        for (int i = 0; i < 5; i++) {
            tanks.add(new Tank());
        }
    }

    private static boolean no(int i, List<?> of) {
        return i < 0 || i >= of.size();
    }

    private static boolean out(int v, int low, int high) {
        return v < low || v > high;
    }

    int base(int a, int b) {
        if (out(a, 0, 1000) || out(b, 0, 1000)) return OUTSIDE;
        if (bases.size() == 8) return FULL;
        bases.add(new int[][] {{a, b}, {a, b}, {a, b}});
        return bases.size() - 1;
    }

    int band(int base, int band, int a, int b) {
        if (no(base, bases) || out(band, 0, 2)) return UNKNOWN;
        if (out(a, 0, 1000) || out(b, 0, 1000)) return OUTSIDE;
        bases.get(base)[band] = new int[] {a, b};
        return 1;
    }

    int lot(int base, int units, int last) {
        if (no(base, bases)) return UNKNOWN;
        if (out(units, 1, 20000) || out(last, 0, 10000)) return OUTSIDE;
        if (lots.size() == 40) return FULL;
        Lot l = new Lot();
        l.base = base;
        l.units = units;
        l.last = last;
        lots.add(l);
        return lots.size() - 1;
    }

    int left(int lot) {
        return no(lot, lots) ? UNKNOWN : lots.get(lot).units;
    }

    private List<Lot> usable(int base) {
        List<Lot> all = new ArrayList<>();
        for (Lot l : lots) if (l.base == base && l.last >= day && l.units > 0) all.add(l);
        all.sort((p, q) -> p.last - q.last); // a stable sort: of several the least number
        return all;
    }

    int may(int base) {
        return no(base, bases) ? UNKNOWN : usable(base).stream().mapToInt(l -> l.units).sum();
    }

    int day(int n) {
        if (out(n, 0, 1000) || day + n > 10000) return OUTSIDE;
        return day += n;
    }

    int recipe() {
        if (recipes.size() == 12) return FULL;
        recipes.add(new ArrayList<>());
        return recipes.size() - 1;
    }

    int part(int recipe, boolean elder, int which, int n) {
        if (no(recipe, recipes) || no(which, elder ? recipes : bases)) return UNKNOWN;
        if (out(n, 1, 100) || elder && which >= recipe) return OUTSIDE;
        List<Part> parts = recipes.get(recipe);
        if (parts.size() == 6) return FULL;
        Part p = new Part();
        p.elder = elder;
        p.which = which;
        p.n = n;
        parts.add(p);
        for (int r = 0; r < recipes.size(); r++) {
            if (Arrays.stream(needs(r)).sum() > 20000) {
                parts.remove(parts.size() - 1);
                return FULL;
            }
        }
        return parts.size();
    }

    private double[] needs(int recipe) {
        double[] all = new double[8];
        for (Part p : recipes.get(recipe)) {
            if (!p.elder) {
                all[p.which] += p.n;
            } else {
                double[] of = needs(p.which);
                for (int b = 0; b < 8; b++) all[b] += p.n * of[b];
            }
        }
        return all;
    }

    int resolved(int recipe, int base) {
        if (no(recipe, recipes) || no(base, bases)) return UNKNOWN;
        return (int) needs(recipe)[base];
    }

    int batch() {
        if (batches.size() == 24) return FULL;
        batches.add(new Batch());
        return batches.size() - 1;
    }

    private int take(int batch, int[] want) {
        Batch to = batches.get(batch);
        for (int b = 0; b < bases.size(); b++) if (may(b) < want[b]) return SHORT;
        if (to.units() + Arrays.stream(want).sum() > 20000) return FULL;
        for (int b = 0; b < bases.size(); b++) {
            int n = want[b];
            for (Lot l : usable(b)) {
                int given = Math.min(n, l.units);
                if (given == 0) break;
                l.units -= given;
                n -= given;
                to.amounts.merge(b, given, Integer::sum);
                to.lots.add(lots.indexOf(l));
            }
        }
        return to.units();
    }

    int weigh(int batch, int base, int n) {
        if (no(batch, batches) || no(base, bases)) return UNKNOWN;
        if (out(n, 1, 20000)) return OUTSIDE;
        if (!batches.get(batch).open) return NOT;
        int[] want = new int[8];
        want[base] = n;
        return take(batch, want);
    }

    int brew(int batch, int recipe, int n) {
        if (no(batch, batches) || no(recipe, recipes)) return UNKNOWN;
        if (out(n, 1, 100)) return OUTSIDE;
        double[] needs = needs(recipe);
        if (!batches.get(batch).open || Arrays.stream(needs).sum() == 0) return NOT;
        int[] want = new int[8];
        for (int b = 0; b < 8; b++) want[b] = (int) needs[b] * n;
        return take(batch, want);
    }

    private static boolean badAim(int x, int y, int z) {
        return out(x, 0, 1000000) || out(y, 0, 1000000) || out(z, 0, 1000000);
    }

    int drops(int batch, int most, int x, int y, int z) {
        if (no(batch, batches)) return UNKNOWN;
        if (out(most, 0, 8) || badAim(x, y, z)) return OUTSIDE;
        Batch b = batches.get(batch);
        if (!b.open || b.units() == 0) return NOT;
        found = null;
        int[] whole = new int[8];
        int[] caps = new int[8];
        for (int i = 0; i < bases.size(); i++) {
            whole[i] = b.amounts.getOrDefault(i, 0);
            caps[i] = may(i);
        }
        tryDrops(whole, caps, Math.min(most, 20000 - b.units()), 0, new int[8], new int[] {x, y, z});
        return foundMiss;
    }

    // From the last base to the first and from many units to few: not the order in which the works goes.
    private void tryDrops(int[] whole, int[] caps, int room, int done, int[] add, int[] aim) {
        if (done == bases.size()) {
            int[] sums = whole.clone();
            for (int i = 0; i < 8; i++) sums[i] += add[i];
            int miss = missOf(sums, aim);
            if (found == null || better(miss, add)) {
                found = add.clone();
                foundMiss = miss;
            }
            return;
        }
        int base = bases.size() - 1 - done;
        for (int n = Math.min(room, caps[base]); n >= 0; n--) {
            add[base] = n;
            tryDrops(whole, caps, room - n, done + 1, add, aim);
        }
        add[base] = 0;
    }

    private boolean better(int miss, int[] add) {
        if (miss != foundMiss) return miss < foundMiss;
        int units = Arrays.stream(add).sum();
        int before = Arrays.stream(found).sum();
        return units != before ? units < before : Arrays.compare(add, found) < 0;
    }

    private int missOf(int[] amounts, int[] aim) {
        int worst = 0;
        for (int band = 0; band < 3; band++) worst = Math.max(worst, Math.abs(shadeOf(amounts, band) - aim[band]));
        return worst;
    }

    private int shadeOf(int[] amounts, int band) {
        long upper = 0;
        long lower = 0;
        for (int i = 0; i < bases.size(); i++) {
            upper += (long) amounts[i] * bases.get(i)[band][0];
            lower += (long) amounts[i] * bases.get(i)[band][1];
        }
        return lower == 0 || upper * 1000 / lower > 1000000 ? 1000000 : (int) (upper * 1000 / lower);
    }

    private int shadeOf(Pot pot, int band) {
        int[] amounts = new int[8];
        pot.amounts.forEach((k, v) -> amounts[k] = v);
        return shadeOf(amounts, band);
    }

    int drop(int base) {
        return no(base, bases) ? UNKNOWN : found == null ? 0 : found[base];
    }

    int dropIn(int batch) {
        if (no(batch, batches)) return UNKNOWN;
        if (!batches.get(batch).open || found == null) return NOT;
        return take(batch, found);
    }

    int amount(int batch, int base) {
        if (no(batch, batches) || no(base, bases)) return UNKNOWN;
        return batches.get(batch).amounts.getOrDefault(base, 0);
    }

    int shade(int batch, int band) {
        if (no(batch, batches) || out(band, 0, 2)) return UNKNOWN;
        return batches.get(batch).units() == 0 ? NOT : shadeOf(batches.get(batch), band);
    }

    int miss(int batch, int x, int y, int z) {
        if (no(batch, batches)) return UNKNOWN;
        if (badAim(x, y, z)) return OUTSIDE;
        Batch b = batches.get(batch);
        if (b.units() == 0) return NOT;
        int[] amounts = new int[8];
        b.amounts.forEach((k, v) -> amounts[k] = v);
        return missOf(amounts, new int[] {x, y, z});
    }

    int holds(int tank, int units) {
        if (no(tank, tanks)) return UNKNOWN;
        if (out(units, 1, 60000)) return OUTSIDE;
        Tank t = tanks.get(tank);
        if (t.inside() > units) return NOT;
        int before = t.holds;
        t.holds = units;
        return before;
    }

    int limit(int v) {
        if (out(v, 0, 1000000)) return OUTSIDE;
        int before = limit;
        limit = v;
        return before;
    }

    private boolean fits(Batch b, Tank t) {
        if (t.clean()) return true;
        if (!t.came.isEmpty() && t.drawn > 0) return false;
        for (int band = 0; band < 3; band++) {
            if (t.came.isEmpty() && shadeOf(b, band) < t.stain[band]) return false;
            if (!t.came.isEmpty() && Math.abs(shadeOf(b, band) - shadeOf(t.all(), band)) > limit) return false;
        }
        return true;
    }

    int pour(int batch, int tank) {
        if (no(batch, batches) || no(tank, tanks)) return UNKNOWN;
        Batch b = batches.get(batch);
        Tank t = tanks.get(tank);
        if (!b.open || b.units() == 0 || !fits(b, t)) return NOT;
        if (t.inside() + b.units() > t.holds) return FULL;
        b.open = false;
        t.stain = null;
        t.came.add(b);
        t.numbers.add(batch);
        return t.inside();
    }

    int clean(int tank) {
        if (no(tank, tanks)) return UNKNOWN;
        Tank t = tanks.get(tank);
        if (t.inside() > 0) return NOT;
        if (t.clean()) return 0;
        t.stain = null;
        cleaned++;
        return 1;
    }

    int fill(int tank, int n) {
        if (no(tank, tanks)) return UNKNOWN;
        if (out(n, 1, 1000)) return OUTSIDE;
        Tank t = tanks.get(tank);
        if (t.inside() < n) return NOT;
        if (drums.size() == 100) return FULL;
        Drum d = new Drum();
        d.units = n;
        d.tank = tank;
        d.day = day;
        d.batches = new TreeSet<>(t.numbers);
        d.lots = t.all().lots;
        drums.add(d);
        t.drawn += n;
        if (t.inside() == 0) {
            Pot all = t.all();
            t.stain = new int[] {shadeOf(all, 0), shadeOf(all, 1), shadeOf(all, 2)};
            t.came.clear();
            t.numbers.clear();
            t.drawn = 0;
        }
        return drums.size() - 1;
    }

    int tank(int tank, int what) {
        if (no(tank, tanks)) return UNKNOWN;
        if (out(what, 0, 3)) return OUTSIDE;
        Tank t = tanks.get(tank);
        return new int[] {t.inside(), t.clean() ? 1 : 0, t.stain != null ? 1 : 0, t.holds}[what];
    }

    int tankShade(int tank, int band) {
        if (no(tank, tanks) || out(band, 0, 2)) return UNKNOWN;
        Tank t = tanks.get(tank);
        if (t.clean()) return NOT;
        return t.stain != null ? t.stain[band] : shadeOf(t.all(), band);
    }

    int drum(int drum, int what) {
        if (no(drum, drums)) return UNKNOWN;
        if (out(what, 0, 4)) return OUTSIDE;
        Drum d = drums.get(drum);
        return new int[] {d.units, d.tank, d.day, d.batches.size(), d.lots.size()}[what];
    }

    int inDrum(int drum, boolean lot, int which) {
        if (no(drum, drums) || no(which, lot ? lots : batches)) return UNKNOWN;
        return (lot ? drums.get(drum).lots : drums.get(drum).batches).contains(which) ? 1 : 0;
    }

    int recall(int lot, int way) {
        if (no(lot, lots)) return UNKNOWN;
        if (way == 0) return (int) drums.stream().filter(d -> d.lots.contains(lot)).count();
        if (way == 1) return (int) batches.stream().filter(b -> b.open && b.lots.contains(lot)).count();
        if (way == 2) return (int) tanks.stream().filter(t -> t.inside() > 0 && t.all().lots.contains(lot)).count();
        return OUTSIDE;
    }

    int job(int hue, int time, int due, int price) {
        if (out(hue, 0, 5)) return UNKNOWN;
        if (out(time, 1, 100) || out(due, 0, 1000) || out(price, 0, 100)) return OUTSIDE;
        if (jobs.size() == 8) return FULL;
        jobs.add(new int[] {hue, time, due, price});
        return jobs.size() - 1;
    }

    int cleaning(int from, int to, int v) {
        if (out(from, 0, 5) || out(to, 0, 5)) return UNKNOWN;
        if (out(v, 0, 1000)) return OUTSIDE;
        int before = changes[from][to];
        changes[from][to] = v;
        return before;
    }

    int plan(int hue) {
        if (out(hue, 0, 5)) return UNKNOWN;
        plan = null;
        tryOrders(new ArrayList<>(), hue, 0, 0);
        return planCost;
    }

    private void tryOrders(List<Integer> order, int hue, int clock, int cost) {
        if (order.size() == jobs.size()) {
            if (plan == null || cost < planCost) {
                plan = new ArrayList<>(order);
                planCost = cost;
            }
            return;
        }
        for (int j = 0; j < jobs.size(); j++) {
            if (order.contains(j)) continue;
            int[] job = jobs.get(j);
            int end = clock + job[1];
            order.add(j);
            tryOrders(order, job[0], end, cost + changes[hue][job[0]] + job[3] * Math.max(0, end - job[2]));
            order.remove(order.size() - 1);
        }
    }

    int planned(int i) {
        return no(i, plan) ? UNKNOWN : plan.get(i);
    }

    int idle() {
        int before = jobs.size();
        jobs.clear();
        return before;
    }

    int count(int what) {
        if (out(what, 0, 7)) return OUTSIDE;
        return new int[] {bases.size(), lots.size(), recipes.size(), batches.size(), drums.size(), jobs.size(), day, cleaned}[what];
    }
}
