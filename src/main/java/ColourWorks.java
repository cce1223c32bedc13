import java.util.Arrays;

/** A works that makes paint. README.md says how to use it. */
public final class ColourWorks {
    public static final int NONE = -1, UNKNOWN = -2, OUTSIDE = -3, NOT = -4, SHORT = -5, FULL = -6;

    private static final int MOST_BASES = 8;
    private static final int BANDS = 3;
    private static final int MOST_STRENGTH = 1000;
    private static final int MOST_SHADE = 1000000;
    private static final int MOST_LOTS = 40;
    private static final int LAST_DAY = 10000;
    private static final int MOST_DAYS_ON = 1000;
    private static final int MOST_UNITS = 20000;
    private static final int MOST_RECIPES = 12;
    private static final int MOST_PARTS = 6;
    private static final int MOST_TIMES = 100;
    private static final int MOST_BATCHES = 24;
    private static final int MOST_DROPS = 8;
    private static final int TANKS = 5;
    private static final int MOST_HELD = 60000;
    private static final int MOST_DRUMS = 100;
    private static final int MOST_IN_DRUM = 1000;
    private static final int HUES = 6;
    private static final int MOST_JOBS = 8;
    private static final int JOB_SETS = 1 << MOST_JOBS;
    // As many rows of 8 numbers from 0 as there are with a sum of 8 at most.
    private static final int MOST_TRIALS = 12870;

    private final Palette palette = new Palette();
    private final Store store = new Store();
    private final Cookbook cookbook = new Cookbook();
    private final Batch[] batches = new Batch[MOST_BATCHES];
    private int batchCount = 0;
    private final DropSearch search = new DropSearch();
    private final Tank[] tanks = new Tank[TANKS];
    private final DrumYard yard = new DrumYard();
    private final Schedule schedule = new Schedule();
    private final int[] wanted = new int[MOST_BASES];
    private int greatestGap = 10;
    private int stainsCleaned = 0;

    public ColourWorks() {
        for (int i = 0; i < MOST_BATCHES; i++) {
            batches[i] = new Batch();
        }
        for (int i = 0; i < TANKS; i++) {
            tanks[i] = new Tank();
        }
    }

    // ---- bases, lots

    public int base(int a, int b) {
        if (!isStrength(a) || !isStrength(b)) {
            return OUTSIDE;
        }
        return palette.add(a, b);
    }

    public int band(int base, int band, int a, int b) {
        if (!palette.has(base) || !isBand(band)) {
            return UNKNOWN;
        }
        if (!isStrength(a) || !isStrength(b)) {
            return OUTSIDE;
        }
        palette.tell(base, band, a, b);
        return 1;
    }

    public int lot(int base, int units, int last) {
        if (!palette.has(base)) {
            return UNKNOWN;
        }
        if (!within(units, 1, MOST_UNITS) || !within(last, 0, LAST_DAY)) {
            return OUTSIDE;
        }
        return store.add(base, units, last);
    }

    public int left(int lot) {
        return store.has(lot) ? store.stock[lot] : UNKNOWN;
    }

    public int may(int base) {
        return palette.has(base) ? store.usableOf(base) : UNKNOWN;
    }

    public int day(int n) {
        if (!within(n, 0, MOST_DAYS_ON) || store.today + n > LAST_DAY) {
            return OUTSIDE;
        }
        store.today += n;
        return store.today;
    }

    // ---- recipes

    public int recipe() {
        return cookbook.add();
    }

    public int part(int recipe, boolean elder, int which, int n) {
        if (!cookbook.has(recipe) || !(elder ? cookbook.has(which) : palette.has(which))) {
            return UNKNOWN;
        }
        if (!within(n, 1, MOST_TIMES) || elder && which >= recipe) {
            return OUTSIDE;
        }
        return cookbook.addPart(recipe, elder, which, n);
    }

    public int resolved(int recipe, int base) {
        if (!cookbook.has(recipe) || !palette.has(base)) {
            return UNKNOWN;
        }
        return cookbook.need(recipe, base);
    }

    // ---- batches

    public int batch() {
        if (batchCount >= MOST_BATCHES) {
            return FULL;
        }
        batchCount++;
        return batchCount - 1;
    }

    public int weigh(int batch, int base, int n) {
        if (!hasBatch(batch) || !palette.has(base)) {
            return UNKNOWN;
        }
        if (!within(n, 1, MOST_UNITS)) {
            return OUTSIDE;
        }
        Arrays.fill(wanted, 0);
        wanted[base] = n;
        return takeWanted(batches[batch]);
    }

    public int brew(int batch, int recipe, int n) {
        if (!hasBatch(batch) || !cookbook.has(recipe)) {
            return UNKNOWN;
        }
        if (!within(n, 1, MOST_TIMES)) {
            return OUTSIDE;
        }
        for (int base = 0; base < MOST_BASES; base++) {
            wanted[base] = n * cookbook.need(recipe, base);
        }
        return sum(wanted) == 0 ? NOT : takeWanted(batches[batch]);
    }

    public int drops(int batch, int most, int x, int y, int z) {
        if (!hasBatch(batch)) {
            return UNKNOWN;
        }
        if (!within(most, 0, MOST_DROPS) || !isAim(x, y, z)) {
            return OUTSIDE;
        }
        Batch to = batches[batch];
        if (to.poured || to.mix.units == 0) {
            return NOT;
        }
        search.aimAt(x, y, z);
        search.start(to.mix, most, palette, store);
        return search.run(palette);
    }

    public int drop(int base) {
        return palette.has(base) ? search.best[base] : UNKNOWN;
    }

    public int dropIn(int batch) {
        if (!hasBatch(batch)) {
            return UNKNOWN;
        }
        if (!search.hasFound) {
            return NOT;
        }
        System.arraycopy(search.best, 0, wanted, 0, MOST_BASES);
        return takeWanted(batches[batch]);
    }

    public int amount(int batch, int base) {
        if (!hasBatch(batch) || !palette.has(base)) {
            return UNKNOWN;
        }
        return batches[batch].mix.amounts[base];
    }

    public int shade(int batch, int band) {
        if (!hasBatch(batch) || !isBand(band)) {
            return UNKNOWN;
        }
        Mix mix = batches[batch].mix;
        return mix.units == 0 ? NOT : palette.shadeOf(mix, band);
    }

    public int miss(int batch, int x, int y, int z) {
        if (!hasBatch(batch)) {
            return UNKNOWN;
        }
        if (!isAim(x, y, z)) {
            return OUTSIDE;
        }
        Mix mix = batches[batch].mix;
        if (mix.units == 0) {
            return NOT;
        }
        int worst = Math.abs(palette.shadeOf(mix, 0) - x);
        worst = Math.max(worst, Math.abs(palette.shadeOf(mix, 1) - y));
        return Math.max(worst, Math.abs(palette.shadeOf(mix, 2) - z));
    }

    // ---- tanks and drums

    public int holds(int tank, int units) {
        if (!isTank(tank)) {
            return UNKNOWN;
        }
        if (!within(units, 1, MOST_HELD)) {
            return OUTSIDE;
        }
        Tank of = tanks[tank];
        if (of.inside > units) {
            return NOT;
        }
        int before = of.size;
        of.size = units;
        return before;
    }

    public int limit(int v) {
        if (!within(v, 0, MOST_SHADE)) {
            return OUTSIDE;
        }
        int before = greatestGap;
        greatestGap = v;
        return before;
    }

    public int pour(int batch, int tank) {
        if (!hasBatch(batch) || !isTank(tank)) {
            return UNKNOWN;
        }
        Batch from = batches[batch];
        Tank to = tanks[tank];
        if (from.poured || from.mix.units == 0 || !to.admits(from.mix, palette, greatestGap)) {
            return NOT;
        }
        if (to.inside + from.mix.units > to.size) {
            return FULL;
        }
        to.receive(from.mix, batch);
        from.poured = true;
        return to.inside;
    }

    public int clean(int tank) {
        if (!isTank(tank)) {
            return UNKNOWN;
        }
        Tank of = tanks[tank];
        if (of.inside > 0) {
            return NOT;
        }
        if (!of.stained) {
            return 0;
        }
        of.stained = false;
        stainsCleaned++;
        return 1;
    }

    public int fill(int tank, int n) {
        if (!isTank(tank)) {
            return UNKNOWN;
        }
        if (!within(n, 1, MOST_IN_DRUM)) {
            return OUTSIDE;
        }
        if (tanks[tank].inside < n) {
            return NOT;
        }
        int number = yard.add(n, tank, store.today, tanks[tank]);
        if (number != FULL) {
            tanks[tank].draw(n, palette);
        }
        return number;
    }

    public int tank(int tank, int what) {
        if (!isTank(tank)) {
            return UNKNOWN;
        }
        Tank of = tanks[tank];
        switch (what) {
            case 0: return of.inside;
            case 1: return of.isClean() ? 1 : 0;
            case 2: return of.stained ? 1 : 0;
            case 3: return of.size;
            default: return OUTSIDE;
        }
    }

    public int tankShade(int tank, int band) {
        if (!isTank(tank) || !isBand(band)) {
            return UNKNOWN;
        }
        Tank of = tanks[tank];
        if (of.isClean()) {
            return NOT;
        }
        return of.stained ? of.stain[band] : palette.shadeOf(of.mix, band);
    }

    public int drum(int drum, int what) {
        if (!yard.has(drum)) {
            return UNKNOWN;
        }
        switch (what) {
            case 0: return yard.units[drum];
            case 1: return yard.fromTank[drum];
            case 2: return yard.filledOn[drum];
            case 3: return Integer.bitCount(yard.batches[drum]);
            case 4: return Long.bitCount(yard.lots[drum]);
            default: return OUTSIDE;
        }
    }

    public int inDrum(int drum, boolean lot, int which) {
        if (!yard.has(drum) || !(lot ? store.has(which) : hasBatch(which))) {
            return UNKNOWN;
        }
        boolean inside = lot ? hasBit(yard.lots[drum], which) : hasBit(yard.batches[drum], which);
        return inside ? 1 : 0;
    }

    public int recall(int lot, int way) {
        if (!store.has(lot)) {
            return UNKNOWN;
        }
        switch (way) {
            case 0: return yard.countWith(lot);
            case 1: return openBatchesWith(lot);
            case 2: return tanksWith(lot);
            default: return OUTSIDE;
        }
    }

    // ---- jobs

    public int job(int hue, int time, int due, int price) {
        if (!isHue(hue)) {
            return UNKNOWN;
        }
        if (!within(time, 1, 100) || !within(due, 0, 1000) || !within(price, 0, 100)) {
            return OUTSIDE;
        }
        return schedule.add(hue, time, due, price);
    }

    public int cleaning(int from, int to, int v) {
        if (!isHue(from) || !isHue(to)) {
            return UNKNOWN;
        }
        if (!within(v, 0, 1000)) {
            return OUTSIDE;
        }
        return schedule.tellChange(from, to, v);
    }

    public int plan(int hue) {
        return isHue(hue) ? schedule.arrange(hue) : UNKNOWN;
    }

    public int planned(int i) {
        return i >= 0 && i < schedule.places ? schedule.order[i] : UNKNOWN;
    }

    public int idle() {
        int before = schedule.size;
        schedule.size = 0;
        return before;
    }

    public int count(int what) {
        switch (what) {
            case 0: return palette.size;
            case 1: return store.size;
            case 2: return cookbook.size;
            case 3: return batchCount;
            case 4: return yard.size;
            case 5: return schedule.size;
            case 6: return store.today;
            case 7: return stainsCleaned;
            default: return OUTSIDE;
        }
    }

    // ---- helpers of the calls

    private boolean hasBatch(int number) {
        return number >= 0 && number < batchCount;
    }

    private int takeWanted(Batch into) {
        if (into.poured) {
            return NOT;
        }
        if (store.lacks(wanted)) {
            return SHORT;
        }
        if (into.mix.units + sum(wanted) > MOST_UNITS) {
            return FULL;
        }
        for (int base = 0; base < MOST_BASES; base++) {
            store.take(base, wanted[base], into.mix);
        }
        return into.mix.units;
    }

    private int openBatchesWith(int lot) {
        int found = 0;
        for (int i = 0; i < batchCount; i++) {
            if (!batches[i].poured && hasBit(batches[i].mix.lots, lot)) {
                found++;
            }
        }
        return found;
    }

    private int tanksWith(int lot) {
        int found = 0;
        for (int i = 0; i < TANKS; i++) {
            if (tanks[i].inside > 0 && hasBit(tanks[i].mix.lots, lot)) {
                found++;
            }
        }
        return found;
    }

    private static boolean within(int v, int least, int most) {
        return v >= least && v <= most;
    }

    private static boolean isStrength(int v) {
        return within(v, 0, MOST_STRENGTH);
    }

    private static boolean isBand(int v) {
        return within(v, 0, BANDS - 1);
    }

    private static boolean isTank(int v) {
        return within(v, 0, TANKS - 1);
    }

    private static boolean isHue(int v) {
        return within(v, 0, HUES - 1);
    }

    private static boolean isAim(int x, int y, int z) {
        return within(x, 0, MOST_SHADE) && within(y, 0, MOST_SHADE) && within(z, 0, MOST_SHADE);
    }

    private static boolean hasBit(long bits, int at) {
        return (bits >> at & 1L) != 0;
    }

    private static int sum(int[] row) {
        int all = 0;
        for (int i = 0; i < row.length; i++) {
            all += row[i];
        }
        return all;
    }

    private static int shadeOfSums(long absorbed, long scattered) {
        if (scattered == 0) {
            return MOST_SHADE;
        }
        return (int) Math.min((long) MOST_SHADE, 1000L * absorbed / scattered);
    }

    /** The bases: what each absorbs and scatters in each band. */
    private static final class Palette {
        private final int[] absorb = new int[MOST_BASES * BANDS];
        private final int[] scatter = new int[MOST_BASES * BANDS];
        private int size = 0;

        boolean has(int number) {
            return number >= 0 && number < size;
        }

        int add(int a, int b) {
            if (size >= MOST_BASES) {
                return FULL;
            }
            for (int band = 0; band < BANDS; band++) {
                tell(size, band, a, b);
            }
            size++;
            return size - 1;
        }

        void tell(int base, int band, int a, int b) {
            absorb[base * BANDS + band] = a;
            scatter[base * BANDS + band] = b;
        }

        long absorbed(Mix mix, int band) {
            return weighted(mix.amounts, absorb, band);
        }

        long scattered(Mix mix, int band) {
            return weighted(mix.amounts, scatter, band);
        }

        int shadeOf(Mix mix, int band) {
            return shadeOfSums(absorbed(mix, band), scattered(mix, band));
        }

        private long weighted(int[] amounts, int[] strengths, int band) {
            long all = 0;
            for (int base = 0; base < size; base++) {
                all += (long) amounts[base] * strengths[base * BANDS + band];
            }
            return all;
        }
    }

    /** The lots, and the day by which they end. */
    private static final class Store {
        private final int[] baseOf = new int[MOST_LOTS];
        private final int[] stock = new int[MOST_LOTS];
        private final int[] lastDay = new int[MOST_LOTS];
        private int size = 0;
        private int today = 0;

        boolean has(int number) {
            return number >= 0 && number < size;
        }

        int add(int base, int units, int last) {
            if (size >= MOST_LOTS) {
                return FULL;
            }
            baseOf[size] = base;
            stock[size] = units;
            lastDay[size] = last;
            size++;
            return size - 1;
        }

        int usableOf(int base) {
            int all = 0;
            for (int i = 0; i < size; i++) {
                if (isUsable(i, base)) {
                    all += stock[i];
                }
            }
            return all;
        }

        boolean lacks(int[] units) {
            for (int base = 0; base < MOST_BASES; base++) {
                if (units[base] > 0 && usableOf(base) < units[base]) {
                    return true;
                }
            }
            return false;
        }

        void take(int base, int n, Mix into) {
            int missing = n;
            for (int turn = 0; turn < size && missing > 0; turn++) {
                int from = nextToEnd(base);
                if (from == NONE) {
                    return;
                }
                int given = Math.min(stock[from], missing);
                stock[from] -= given;
                missing -= given;
                into.add(base, given, from);
            }
        }

        private boolean isUsable(int number, int base) {
            return baseOf[number] == base && lastDay[number] >= today && stock[number] > 0;
        }

        private int nextToEnd(int base) {
            int next = NONE;
            for (int i = 0; i < size; i++) {
                if (isUsable(i, base) && (next == NONE || lastDay[i] < lastDay[next])) {
                    next = i;
                }
            }
            return next;
        }
    }

    /** The recipes: their parts, and what they need of each base when resolved. */
    private static final class Cookbook {
        private final boolean[] ofElder = new boolean[MOST_RECIPES * MOST_PARTS];
        private final int[] source = new int[MOST_RECIPES * MOST_PARTS];
        private final int[] times = new int[MOST_RECIPES * MOST_PARTS];
        private final int[] partCount = new int[MOST_RECIPES];
        private final int[] needs = new int[MOST_RECIPES * MOST_BASES];
        private final int[] trial = new int[MOST_RECIPES * MOST_BASES];
        private int size = 0;

        boolean has(int number) {
            return number >= 0 && number < size;
        }

        int add() {
            if (size >= MOST_RECIPES) {
                return FULL;
            }
            size++;
            return size - 1;
        }

        int need(int number, int base) {
            return needs[number * MOST_BASES + base];
        }

        int addPart(int number, boolean elder, int from, int n) {
            if (partCount[number] >= MOST_PARTS) {
                return FULL;
            }
            int at = number * MOST_PARTS + partCount[number];
            ofElder[at] = elder;
            source[at] = from;
            times[at] = n;
            partCount[number]++;
            if (!resolveAll()) {
                partCount[number]--;
                return FULL;
            }
            System.arraycopy(trial, 0, needs, 0, needs.length);
            return partCount[number];
        }

        // Elder recipes have lesser numbers, so each finds those it is made of resolved;
        // stopping at the first that is too great keeps the sums far within an int.
        private boolean resolveAll() {
            Arrays.fill(trial, 0);
            for (int number = 0; number < size; number++) {
                if (resolveInTrial(number) > MOST_UNITS) {
                    return false;
                }
            }
            return true;
        }

        private int resolveInTrial(int number) {
            for (int i = 0; i < partCount[number]; i++) {
                addPartToTrial(number, number * MOST_PARTS + i);
            }
            int all = 0;
            for (int base = 0; base < MOST_BASES; base++) {
                all += trial[number * MOST_BASES + base];
            }
            return all;
        }

        private void addPartToTrial(int number, int at) {
            int row = number * MOST_BASES;
            if (!ofElder[at]) {
                trial[row + source[at]] += times[at];
                return;
            }
            for (int base = 0; base < MOST_BASES; base++) {
                trial[row + base] += times[at] * trial[source[at] * MOST_BASES + base];
            }
        }
    }

    /** Units of bases that came together, and the lots that they came from. */
    private static final class Mix {
        private final int[] amounts = new int[MOST_BASES];
        private int units = 0;
        private long lots = 0;

        void add(int base, int n, int fromLot) {
            amounts[base] += n;
            units += n;
            lots |= 1L << fromLot;
        }

        void addAll(Mix other) {
            for (int base = 0; base < MOST_BASES; base++) {
                amounts[base] += other.amounts[base];
            }
            units += other.units;
            lots |= other.lots;
        }

        void empty() {
            Arrays.fill(amounts, 0);
            units = 0;
            lots = 0;
        }
    }

    private static final class Batch {
        private final Mix mix = new Mix();
        private boolean poured = false;
    }

    private static final class Tank {
        // All that came in since the tank was empty: drums lessen what is inside, not this,
        // since what is left keeps the shade and the lots of the whole.
        private final Mix mix = new Mix();
        private final int[] stain = new int[BANDS];
        private int inside = 0;
        private int size = 1000;
        private int batches = 0;
        private boolean tapped = false;
        private boolean stained = false;

        boolean isClean() {
            return inside == 0 && !stained;
        }

        boolean admits(Mix other, Palette palette, int gap) {
            if (inside > 0) {
                return !tapped && isAlike(other, palette, gap);
            }
            return !stained || coversStain(other, palette);
        }

        void receive(Mix other, int number) {
            if (inside == 0) {
                mix.empty();
                batches = 0;
                tapped = false;
                stained = false;
            }
            mix.addAll(other);
            inside += other.units;
            batches |= 1 << number;
        }

        void draw(int n, Palette palette) {
            inside -= n;
            tapped = true;
            if (inside > 0) {
                return;
            }
            stained = true;
            for (int band = 0; band < BANDS; band++) {
                stain[band] = palette.shadeOf(mix, band);
            }
        }

        private boolean isAlike(Mix other, Palette palette, int gap) {
            for (int band = 0; band < BANDS; band++) {
                if (Math.abs(palette.shadeOf(mix, band) - palette.shadeOf(other, band)) > gap) {
                    return false;
                }
            }
            return true;
        }

        private boolean coversStain(Mix other, Palette palette) {
            for (int band = 0; band < BANDS; band++) {
                if (palette.shadeOf(other, band) < stain[band]) {
                    return false;
                }
            }
            return true;
        }
    }

    /** The drums that were filled; sets of batches and lots are bits. */
    private static final class DrumYard {
        private final int[] units = new int[MOST_DRUMS];
        private final int[] fromTank = new int[MOST_DRUMS];
        private final int[] filledOn = new int[MOST_DRUMS];
        private final int[] batches = new int[MOST_DRUMS];
        private final long[] lots = new long[MOST_DRUMS];
        private int size = 0;

        boolean has(int number) {
            return number >= 0 && number < size;
        }

        int add(int n, int number, int today, Tank from) {
            if (size >= MOST_DRUMS) {
                return FULL;
            }
            units[size] = n;
            fromTank[size] = number;
            filledOn[size] = today;
            batches[size] = from.batches;
            lots[size] = from.mix.lots;
            size++;
            return size - 1;
        }

        int countWith(int lot) {
            int found = 0;
            for (int i = 0; i < size; i++) {
                if (hasBit(lots[i], lot)) {
                    found++;
                }
            }
            return found;
        }
    }

    /** Tries all drops, by their numbers of base 0, of base 1 and so on, so that the first of equals stays. */
    private static final class DropSearch {
        private final int[] best = new int[MOST_BASES];
        private boolean hasFound = false;
        private int bestMiss = 0;
        private int bestUnits = 0;
        private final int[] aim = new int[BANDS];
        private final int[] caps = new int[MOST_BASES];
        private final int[] trial = new int[MOST_BASES];
        private int trialUnits = 0;
        private int room = 0;
        private final long[] absorbed = new long[BANDS];
        private final long[] scattered = new long[BANDS];

        void aimAt(int x, int y, int z) {
            aim[0] = x;
            aim[1] = y;
            aim[2] = z;
        }

        void start(Mix mix, int most, Palette palette, Store store) {
            room = Math.min(most, MOST_UNITS - mix.units);
            trialUnits = 0;
            for (int base = 0; base < MOST_BASES; base++) {
                trial[base] = 0;
                caps[base] = store.usableOf(base);
            }
            for (int band = 0; band < BANDS; band++) {
                absorbed[band] = palette.absorbed(mix, band);
                scattered[band] = palette.scattered(mix, band);
            }
        }

        int run(Palette palette) {
            hasFound = true;
            bestMiss = MOST_SHADE + 1;
            for (int i = 0; i < MOST_TRIALS; i++) {
                judge();
                if (!advance(palette)) {
                    break;
                }
            }
            return bestMiss;
        }

        private void judge() {
            int miss = missOfTrial();
            if (miss < bestMiss || miss == bestMiss && trialUnits < bestUnits) {
                bestMiss = miss;
                bestUnits = trialUnits;
                System.arraycopy(trial, 0, best, 0, MOST_BASES);
            }
        }

        // A band that is worse than the best miss settles the trial: the others need no division.
        private int missOfTrial() {
            int worst = 0;
            for (int band = 0; band < BANDS && worst <= bestMiss; band++) {
                int off = Math.abs(shadeOfSums(absorbed[band], scattered[band]) - aim[band]);
                worst = Math.max(worst, off);
            }
            return worst;
        }

        private boolean advance(Palette palette) {
            for (int base = palette.size - 1; base >= 0; base--) {
                if (trialUnits < room && trial[base] < caps[base]) {
                    change(base, 1, palette);
                    return true;
                }
                if (trial[base] > 0) {
                    change(base, -trial[base], palette);
                }
            }
            return false;
        }

        private void change(int base, int n, Palette palette) {
            trial[base] += n;
            trialUnits += n;
            for (int band = 0; band < BANDS; band++) {
                absorbed[band] += n * palette.absorb[base * BANDS + band];
                scattered[band] += n * palette.scatter[base * BANDS + band];
            }
        }
    }

    /** The jobs and their best order. */
    private static final class Schedule {
        private final int[] hueOf = new int[MOST_JOBS];
        private final int[] timeOf = new int[MOST_JOBS];
        private final int[] dueOf = new int[MOST_JOBS];
        private final int[] priceOf = new int[MOST_JOBS];
        private int size = 0;
        private final int[] changes = new int[HUES * HUES];
        // The least cost of the jobs that are not in a set of done ones, from a hue on:
        // what is done counts by its time alone, so its order need not be known.
        private final int[] costAhead = new int[JOB_SETS * HUES];
        private final int[] order = new int[MOST_JOBS];
        private int places = 0;

        int add(int hue, int time, int due, int price) {
            if (size >= MOST_JOBS) {
                return FULL;
            }
            hueOf[size] = hue;
            timeOf[size] = time;
            dueOf[size] = due;
            priceOf[size] = price;
            size++;
            return size - 1;
        }

        int tellChange(int from, int to, int v) {
            int before = changes[from * HUES + to];
            changes[from * HUES + to] = v;
            return before;
        }

        int arrange(int firstHue) {
            int all = (1 << size) - 1;
            for (int done = all; done >= 0; done--) {
                int clock = timeOfSet(done);
                for (int hue = 0; hue < HUES; hue++) {
                    int next = bestNext(done, hue, clock);
                    costAhead[done * HUES + hue] = next == NONE ? 0 : costWith(next, done, hue, clock);
                }
            }
            writeOrder(firstHue);
            return costAhead[firstHue];
        }

        private void writeOrder(int firstHue) {
            int done = 0;
            int hue = firstHue;
            int clock = 0;
            places = size;
            for (int i = 0; i < size; i++) {
                int next = bestNext(done, hue, clock);
                if (next == NONE) {
                    return;
                }
                order[i] = next;
                done |= 1 << next;
                hue = hueOf[next];
                clock += timeOf[next];
            }
        }

        private int bestNext(int done, int hue, int clock) {
            int best = NONE;
            int least = 0;
            for (int i = 0; i < size; i++) {
                if (hasBit(done, i)) {
                    continue;
                }
                int cost = costWith(i, done, hue, clock);
                if (best == NONE || cost < least) {
                    best = i;
                    least = cost;
                }
            }
            return best;
        }

        private int costWith(int next, int done, int hue, int clock) {
            int late = Math.max(0, clock + timeOf[next] - dueOf[next]);
            int ahead = costAhead[(done | 1 << next) * HUES + hueOf[next]];
            return changes[hue * HUES + hueOf[next]] + priceOf[next] * late + ahead;
        }

        private int timeOfSet(int done) {
            int all = 0;
            for (int i = 0; i < size; i++) {
                if (hasBit(done, i)) {
                    all += timeOf[i];
                }
            }
            return all;
        }
    }
}
