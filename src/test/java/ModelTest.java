import java.util.ArrayList;
import java.util.Arrays;
import java.util.List;
import java.util.Random;

/**
 * Long runs of mixed calls, each answer compared with a model that is written another way:
 * its rules are functions, its failures are thrown. The seeds are fixed, so every run is the same.
 */
public final class ModelTest {
    private static final int RUNS = 3000;
    /** The document promises nothing of an object beyond these, so no run goes further. */
    private static final int CALLS = 512;
    /** So many calls of each run are kept for reading all that there is at its end. */
    private static final int READINGS = 75;

    private interface Rule {
        long at(int hour);
    }

    private static final class Failure extends RuntimeException {
        private static final long serialVersionUID = 1L;
        private final int why;

        private Failure(int why) {
            super(null, null, false, false);
            this.why = why;
        }
    }

    private static final class Model {
        private final List<Long> levels = new ArrayList<>();
        private final List<Rule> rules = new ArrayList<>();
        private final List<long[]> counters = new ArrayList<>();
        private final List<int[]> sluices = new ArrayList<>();
        private final int[] slots = new int[8];
        private final int[] told = {-1, 0, 0};
        private int moon = 1;
        private int steps = 0;
        private long given = 0;

        private Model() {
            Arrays.fill(slots, -1);
        }

        private boolean rule(int r) {
            return r >= 0 && r < rules.size();
        }

        private boolean part(int r) {
            return r == -1 || rule(r);
        }

        private boolean basin(int b) {
            return b >= 0 && b < levels.size();
        }

        private static boolean within(long x, long low, long high) {
            return x >= low && x <= high;
        }

        private long asked(int r, int hour) {
            if (r == -1) {
                throw new Failure(-201);
            }
            if (steps == 120) {
                throw new Failure(-202);
            }
            steps++;
            return rules.get(r).at(hour);
        }

        private long start(int r, int hour) {
            steps = 0;
            return asked(r, hour);
        }

        private boolean known(int[] p) {
            int k = p[0];
            if (!within(k, 0, 16)) {
                return false;
            }
            boolean ruleA = within(k, 4, 13);
            boolean ruleB = within(k, 4, 7) || k == 9;
            return !(k == 1 && !basin(p[1]))
                    && !(ruleA && !part(p[1])) && !(ruleB && !part(p[2])) && !(k == 9 && !part(p[3]))
                    && !(k == 14 && (!rule(p[1]) || counters.get(p[1]) == null))
                    && !(k >= 15 && !within(p[1], 0, 7)) && !(k == 16 && !within(p[2], 0, 7));
        }

        private int make(int... p) {
            if (!known(p)) {
                return -101;
            }
            boolean outside = p[0] == 8 && !within(p[3], 1, 1000) || p[0] == 11 && p[4] > p[5]
                    || p[0] == 16 && p[1] > p[2];
            if (outside) {
                return -102;
            }
            if (rules.size() == 40) {
                return -103;
            }
            long[] counter = p[0] == 13 ? new long[1] : null;
            try {
                rules.add(made(p, counter));
            } catch (Failure failure) {
                return failure.why;
            }
            counters.add(counter);
            return rules.size() - 1;
        }

        private Rule made(int[] p, long[] counter) {
            int a = p[1], b = p[2], c = p[3], d = p[4], e = p[5];
            return switch (p[0]) {
                case 0 -> h -> a;
                case 1 -> h -> levels.get(a);
                case 2 -> h -> {
                    int m = (int) ((((long) h * moon) % 12 + 12) % 12);
                    return m <= 6 ? m : 12 - m;
                };
                case 3 -> h -> h;
                case 8 -> h -> {
                    long product = asked(a, h) * b;
                    return product / c - (product % c < 0 ? 1 : 0);
                };
                case 9 -> h -> asked(a, h) > 0 ? asked(b, h) : asked(c, h);
                case 10 -> h -> asked(a, h + b);
                case 11 -> h -> {
                    long v = asked(a, h);
                    return v < d ? b : v > e ? c : v;
                };
                case 12 -> {
                    long held = start(a, b);
                    yield h -> held;
                }
                case 13 -> h -> {
                    counter[0]++;
                    return asked(a, h);
                };
                case 14 -> h -> counters.get(a)[0];
                case 15 -> h -> asked(slots[a], h);
                case 16 -> h -> {
                    long sum = 0;
                    for (int s = a; s <= b; s++) {
                        sum += asked(slots[s], h);
                    }
                    return sum;
                };
                default -> h -> joined(p[0], asked(a, h), asked(b, h));
            };
        }

        private static long joined(int kind, long x, long y) {
            return switch (kind) {
                case 4 -> x + y;
                case 5 -> x - y;
                case 6 -> x < y ? x : y;
                default -> x > y ? x : y;
            };
        }

        private int basinOf(int level) {
            if (!within(level, 0, 1000000000)) {
                return -102;
            }
            if (levels.size() == 8) {
                return -103;
            }
            levels.add((long) level);
            return levels.size() - 1;
        }

        private int fill(int basin, int level) {
            if (!basin(basin)) {
                return -101;
            }
            return within(level, 0, 1000000000) ? levels.set(basin, (long) level).intValue() : -102;
        }

        private int moonOf(int m) {
            if (!within(m, 0, 11)) {
                return -102;
            }
            int was = moon;
            moon = m;
            return was;
        }

        private int put(int slot, int r) {
            if (!within(slot, 0, 7) || !part(r)) {
                return -101;
            }
            int was = slots[slot];
            slots[slot] = r;
            return was;
        }

        private int ask(int r, int hour) {
            if (!rule(r)) {
                return -101;
            }
            try {
                given = start(r, hour);
                return 1;
            } catch (Failure failure) {
                return failure.why;
            }
        }

        private int sluice(int from, int to, int r) {
            if (!basin(from) || !basin(to) || !rule(r)) {
                return -101;
            }
            if (from == to) {
                return -102;
            }
            if (sluices.size() == 8) {
                return -103;
            }
            sluices.add(new int[] {from, to, r});
            return sluices.size() - 1;
        }

        private int run(int hour, int n) {
            if (!within(n, 0, 100)) {
                return -102;
            }
            told[0] = -1;
            told[1] = 0;
            told[2] = 0;
            int at = 0;
            for (int done = 0; done < n; done++) {
                try {
                    for (at = 0; at < sluices.size(); at++) {
                        int[] s = sluices.get(at);
                        flow(s[0], s[1], start(s[2], hour + done));
                    }
                } catch (Failure failure) {
                    told[0] = at;
                    told[1] = failure.why;
                    return done;
                }
            }
            return n;
        }

        private void flow(int from, int to, long opening) {
            long amount = opening < 0 ? 0 : opening;
            amount = amount > levels.get(from) ? levels.get(from) : amount;
            long space = 1000000000 - levels.get(to);
            amount = amount > space ? space : amount;
            levels.set(from, levels.get(from) - amount);
            levels.set(to, levels.get(to) + amount);
            told[2] = (int) amount;
        }

        private long count(int what) {
            return switch (what) {
                case 0 -> levels.size();
                case 1 -> rules.size();
                case 2 -> sluices.size();
                case 3 -> steps;
                default -> within(what, 8, 15) ? slots[what - 8] : -101;
            };
        }
    }

    private static final class Mixer {
        private static final int[] ENDS = {Integer.MIN_VALUE, Integer.MAX_VALUE, -1, -2, 0, 1, 12, 40, 100, 101, 1000,
            1001, 1000000000, 1000000001};
        private final Random random;
        private final SluiceRules real = new SluiceRules();
        private final Model model = new Model();
        private String call = "";
        private int calls = 0;

        private Mixer(long seed) {
            random = new Random(seed);
        }

        private boolean chance(int percent) {
            return random.nextInt(100) < percent;
        }

        private int any() {
            if (chance(40)) {
                return ENDS[random.nextInt(ENDS.length)];
            }
            return chance(50) ? random.nextInt() : random.nextInt(60) - 30;
        }

        private int upTo(int count) {
            return chance(4) ? any() : random.nextInt(Math.max(1, count));
        }

        private int number() {
            return chance(60) ? random.nextInt(20) - 6 : any();
        }

        private int part() {
            return chance(7) ? -1 : upTo(model.rules.size());
        }

        private int level() {
            return chance(5) ? any() : chance(20) ? 1000000000 - random.nextInt(50) : random.nextInt(200);
        }

        private int[] parts() {
            int kind = chance(2) ? any() : random.nextInt(17);
            int[] p = {kind, part(), part(), part(), number(), number()};
            switch (kind) {
                case 0 -> p[1] = number();
                case 1 -> p[1] = upTo(model.levels.size());
                case 8 -> {
                    p[2] = number();
                    p[3] = chance(90) ? 1 + random.nextInt(12) : any();
                }
                case 10, 12 -> p[2] = number();
                case 11 -> {
                    p[2] = number();
                    p[3] = number();
                    p[5] = chance(90) && p[4] < 1000 ? p[4] + random.nextInt(9) : p[5];
                }
                case 15 -> p[1] = upTo(8);
                case 16 -> {
                    p[1] = upTo(8);
                    p[2] = chance(80) ? p[1] + random.nextInt(3) : upTo(8);
                }
                default -> { }
            }
            return p;
        }

        private boolean same(String text, long got, long want) {
            calls++;
            call = text + " answered " + got + ", due is " + want;
            return got == want;
        }

        private boolean goes() {
            int x = 0, y = 0, z = 0;
            switch (random.nextInt(12)) {
                case 0:
                    x = level();
                    return same("basin " + x, real.basin(x), model.basinOf(x));
                case 1:
                    x = upTo(model.levels.size());
                    y = level();
                    return same("fill " + x + " " + y, real.fill(x, y), model.fill(x, y));
                case 2:
                    x = upTo(12);
                    return same("moon " + x, real.moon(x), model.moonOf(x));
                case 3, 4, 5:
                    int[] p = parts();
                    int number = real.make(p[0], p[1], p[2], p[3], p[4], p[5]);
                    return same("make " + Arrays.toString(p), number, model.make(p));
                case 6, 7:
                    x = upTo(8);
                    y = part();
                    return same("put " + x + " " + y, real.put(x, y), model.put(x, y));
                case 8, 9:
                    x = upTo(model.rules.size());
                    y = number();
                    return same("ask " + x + " " + y, real.ask(x, y), model.ask(x, y));
                case 10:
                    x = upTo(model.levels.size());
                    y = upTo(model.levels.size());
                    z = upTo(model.rules.size());
                    return same("sluice " + x + " " + y + " " + z, real.sluice(x, y, z), model.sluice(x, y, z));
                default:
                    x = number();
                    y = chance(90) ? random.nextInt(6) : any();
                    return same("run " + x + " " + y, real.run(x, y), model.run(x, y));
            }
        }

        private boolean sameGiven() {
            return same("given", real.given(), model.given);
        }

        private boolean sameTold(int what) {
            return same("told " + what, real.told(what), Model.within(what, 0, 2) ? model.told[what] : -101);
        }

        private boolean sameLevel(int basin) {
            return same("level " + basin, real.level(basin), model.basin(basin) ? model.levels.get(basin) : -101);
        }

        private boolean sameCounted(int rule) {
            boolean counts = model.rule(rule) && model.counters.get(rule) != null;
            return same("counted " + rule, real.counted(rule), counts ? model.counters.get(rule)[0] : -101);
        }

        private boolean sameCount(int what) {
            return same("count " + what, real.count(what), model.count(what));
        }

        private boolean reads() {
            switch (random.nextInt(6)) {
                case 0:
                    return sameGiven();
                case 1:
                    return sameTold(upTo(3));
                case 2:
                    return sameLevel(upTo(model.levels.size()));
                case 3:
                    return sameCounted(upTo(model.rules.size()));
                case 4:
                    return sameCount(3);
                default:
                    return sameCount(upTo(17));
            }
        }

        private boolean stands() {
            boolean fine = sameGiven();
            for (int i = 0; fine && i < 3; i++) {
                fine = sameTold(i);
            }
            for (int i = -1; fine && i < 9; i++) {
                fine = sameLevel(i);
            }
            for (int i = -1; fine && i < 41; i++) {
                fine = sameCounted(i);
            }
            for (int i = -1; fine && i < 18; i++) {
                fine = sameCount(i);
            }
            return fine;
        }

        private boolean holds() {
            while (calls + 2 <= CALLS - READINGS) {
                if (!goes() || !reads()) {
                    return false;
                }
            }
            return stands();
        }
    }

    public static void main(String[] args) {
        for (int run = 0; run < RUNS; run++) {
            Mixer mixer = new Mixer(run);
            if (!mixer.holds() || mixer.calls > CALLS) {
                System.out.println("seed " + run + ", call " + mixer.calls + ": " + mixer.call);
                System.exit(1);
            }
        }
        System.out.println("all answers are as the model's");
    }
}
