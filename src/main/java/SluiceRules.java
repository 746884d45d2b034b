/**
 * Basins with sluices between them, whose openings are told by rules.
 * The document of the project says what each call does and answers.
 */
public final class SluiceRules {
    public static final int NONE = -1, UNKNOWN = -101, OUTSIDE = -102, ROOM = -103, MISSING = -201, SPENT = -202;

    private static final int BASIN_LIMIT = 8;
    private static final int RULE_LIMIT = 40;
    private static final int SLOT_LIMIT = 8;
    private static final int SLUICE_LIMIT = 8;
    private static final int STEP_LIMIT = 120;
    private static final int HOUR_LIMIT = 100;
    private static final int HIGHEST_LEVEL = 1000000000;
    private static final int MOONS = 12;
    private static final int LARGEST_DIVISOR = 1000;
    private static final int FIRST_SLOT_COUNT = 8;

    private static final int FLAT = 0;
    private static final int LEVEL = 1;
    private static final int TIDE = 2;
    private static final int HOUR = 3;
    private static final int SUM = 4;
    private static final int LESS = 5;
    private static final int LEAST = 6;
    private static final int MOST = 7;
    private static final int SCALED = 8;
    private static final int WHEN = 9;
    private static final int LATER = 10;
    private static final int BAND = 11;
    private static final int HELD = 12;
    private static final int COUNTED = 13;
    private static final int COUNT = 14;
    private static final int SLOT = 15;
    private static final int ALL = 16;

    private final int[] levels = new int[BASIN_LIMIT];
    private int basinCount = 0;
    private int moonNow = 1;
    private final int[] slots = new int[SLOT_LIMIT];
    private final Rule[] rules = new Rule[RULE_LIMIT];
    private int ruleCount = 0;
    private final Sluice[] sluices = new Sluice[SLUICE_LIMIT];
    private int sluiceCount = 0;

    private int steps = 0;
    /** Why the latest asking by a call failed; 0 if it did not. */
    private int failure = 0;
    private long latestGiven = 0;

    private int failedSluice = NONE;
    private int failedBy = 0;
    private int wentOver = 0;

    /** What a rule was made of; which of the numbers mean something is told by its kind. */
    private static final class Rule {
        private final int kind;
        private final int a;
        private final int b;
        private final int c;
        private final int d;
        private final int e;
        private long held = 0;
        private int counter = 0;

        private Rule(int kind, int a, int b, int c, int d, int e) {
            this.kind = kind;
            this.a = a;
            this.b = b;
            this.c = c;
            this.d = d;
            this.e = e;
        }
    }

    private static final class Sluice {
        private final int from;
        private final int to;
        private final int rule;

        private Sluice(int from, int to, int rule) {
            this.from = from;
            this.to = to;
            this.rule = rule;
        }
    }

    public SluiceRules() {
        for (int slot = 0; slot < slots.length; slot++) {
            slots[slot] = NONE;
        }
    }

    public int basin(int level) {
        if (!isLevel(level)) {
            return OUTSIDE;
        }
        if (basinCount >= levels.length) {
            return ROOM;
        }
        levels[basinCount] = level;
        basinCount++;
        return basinCount - 1;
    }

    public int fill(int basin, int level) {
        if (!isBasin(basin)) {
            return UNKNOWN;
        }
        if (!isLevel(level)) {
            return OUTSIDE;
        }
        int before = levels[basin];
        levels[basin] = level;
        return before;
    }

    public int moon(int m) {
        if (m < 0 || m >= MOONS) {
            return OUTSIDE;
        }
        int before = moonNow;
        moonNow = m;
        return before;
    }

    public int make(int kind, int a, int b, int c, int d, int e) {
        if (!hasKnownParts(kind, a, b, c)) {
            return UNKNOWN;
        }
        if (!hasFitNumbers(kind, a, b, c, d, e)) {
            return OUTSIDE;
        }
        if (ruleCount >= rules.length) {
            return ROOM;
        }
        long held = 0;
        if (kind == HELD) {
            held = askByCall(a, b);
            if (failure != 0) {
                return failure;
            }
        }
        Rule rule = new Rule(kind, a, b, c, d, e);
        rule.held = held;
        rules[ruleCount] = rule;
        ruleCount++;
        return ruleCount - 1;
    }

    public int put(int slot, int rule) {
        if (!isSlot(slot) || !isRuleOrNone(rule)) {
            return UNKNOWN;
        }
        int before = slots[slot];
        slots[slot] = rule;
        return before;
    }

    public int ask(int rule, int hour) {
        if (ruleAt(rule) == null) {
            return UNKNOWN;
        }
        long value = askByCall(rule, hour);
        if (failure != 0) {
            return failure;
        }
        latestGiven = value;
        return 1;
    }

    public long given() {
        return latestGiven;
    }

    public int sluice(int from, int to, int rule) {
        if (!isBasin(from) || !isBasin(to) || ruleAt(rule) == null) {
            return UNKNOWN;
        }
        if (from == to) {
            return OUTSIDE;
        }
        if (sluiceCount >= sluices.length) {
            return ROOM;
        }
        sluices[sluiceCount] = new Sluice(from, to, rule);
        sluiceCount++;
        return sluiceCount - 1;
    }

    public int run(int hour, int n) {
        if (n < 0 || n > HOUR_LIMIT) {
            return OUTSIDE;
        }
        failedSluice = NONE;
        failedBy = 0;
        wentOver = 0;
        for (int whole = 0; whole < n; whole++) {
            if (!goesWhole(hour + whole)) {
                return whole;
            }
        }
        return n;
    }

    public int told(int what) {
        switch (what) {
            case 0:
                return failedSluice;
            case 1:
                return failedBy;
            case 2:
                return wentOver;
            default:
                return UNKNOWN;
        }
    }

    public int level(int basin) {
        return isBasin(basin) ? levels[basin] : UNKNOWN;
    }

    public int counted(int rule) {
        Rule found = countedAt(rule);
        return found != null ? found.counter : UNKNOWN;
    }

    public int count(int what) {
        switch (what) {
            case 0:
                return basinCount;
            case 1:
                return ruleCount;
            case 2:
                return sluiceCount;
            case 3:
                return steps;
            default:
                int slot = what - FIRST_SLOT_COUNT;
                return isSlot(slot) ? slots[slot] : UNKNOWN;
        }
    }

    private static boolean isLevel(int level) {
        return level >= 0 && level <= HIGHEST_LEVEL;
    }

    private boolean isBasin(int basin) {
        return basin >= 0 && basin < basinCount && basin < levels.length;
    }

    private boolean isSlot(int slot) {
        return slot >= 0 && slot < slots.length;
    }

    private boolean isRuleOrNone(int rule) {
        return rule == NONE || ruleAt(rule) != null;
    }

    /** The rule of that number; null, if there is none, as for NONE. */
    private Rule ruleAt(int number) {
        return number >= 0 && number < rules.length ? rules[number] : null;
    }

    private Rule countedAt(int number) {
        Rule rule = ruleAt(number);
        return rule != null && rule.kind == COUNTED ? rule : null;
    }

    private int ruleInSlot(int slot) {
        return isSlot(slot) ? slots[slot] : NONE;
    }

    private boolean hasKnownParts(int kind, int a, int b, int c) {
        switch (kind) {
            case FLAT:
            case TIDE:
            case HOUR:
                return true;
            case LEVEL:
                return isBasin(a);
            case SUM:
            case LESS:
            case LEAST:
            case MOST:
                return isRuleOrNone(a) && isRuleOrNone(b);
            case WHEN:
                return isRuleOrNone(a) && isRuleOrNone(b) && isRuleOrNone(c);
            case SCALED:
            case LATER:
            case BAND:
            case HELD:
            case COUNTED:
                return isRuleOrNone(a);
            case COUNT:
                return countedAt(a) != null;
            case SLOT:
                return isSlot(a);
            case ALL:
                return isSlot(a) && isSlot(b);
            default:
                return false;
        }
    }

    private static boolean hasFitNumbers(int kind, int a, int b, int c, int d, int e) {
        switch (kind) {
            case SCALED:
                return c >= 1 && c <= LARGEST_DIVISOR;
            case BAND:
                return d <= e;
            case ALL:
                return a <= b;
            default:
                return true;
        }
    }

    /** One asking by a call, with steps of its own; failure tells afterwards whether the answer counts. */
    private long askByCall(int rule, int hour) {
        steps = 0;
        failure = 0;
        return valueOf(rule, hour);
    }

    /**
     * The step limit bounds the recursion: a rule that asks itself by a slot is at most 120 levels deep.
     * After a failure every asking that is still open comes back here and does nothing more,
     * so the cases need not look at the failure themselves.
     */
    private long valueOf(int number, int hour) {
        Rule rule = stepTo(number);
        if (rule == null) {
            return 0;
        }
        switch (rule.kind) {
            case SUM:
                return valueOf(rule.a, hour) + valueOf(rule.b, hour);
            case LESS:
                return valueOf(rule.a, hour) - valueOf(rule.b, hour);
            case LEAST:
                return Math.min(valueOf(rule.a, hour), valueOf(rule.b, hour));
            case MOST:
                return Math.max(valueOf(rule.a, hour), valueOf(rule.b, hour));
            case SCALED:
                return scaled(valueOf(rule.a, hour), rule.b, rule.c);
            case WHEN:
                return valueOf(valueOf(rule.a, hour) > 0 ? rule.b : rule.c, hour);
            case LATER:
                return valueOf(rule.a, hour + rule.b);
            case BAND:
                return banded(valueOf(rule.a, hour), rule);
            case COUNTED:
                rule.counter++;
                return valueOf(rule.a, hour);
            case SLOT:
                return valueOf(ruleInSlot(rule.a), hour);
            case ALL:
                long sum = 0;
                for (int slot = rule.a; slot <= rule.b && slot < SLOT_LIMIT; slot++) {
                    sum += valueOf(ruleInSlot(slot), hour);
                }
                return sum;
            default:
                return valueOfLeaf(rule, hour);
        }
    }

    /** The rule to be asked next, its step being counted; null if the asking has failed, here or before. */
    private Rule stepTo(int number) {
        if (failure != 0) {
            return null;
        }
        Rule rule = ruleAt(number);
        // Missing goes ahead of spent: a rule that is lacking would be no step.
        if (rule == null) {
            failure = MISSING;
            return null;
        }
        if (steps >= STEP_LIMIT) {
            failure = SPENT;
            return null;
        }
        steps++;
        return rule;
    }

    private long valueOfLeaf(Rule rule, int hour) {
        switch (rule.kind) {
            case FLAT:
                return rule.a;
            case LEVEL:
                return level(rule.a);
            case TIDE:
                return tide(hour);
            case HOUR:
                return hour;
            case HELD:
                return rule.held;
            case COUNT:
                return counted(rule.a);
            default:
                return 0;
        }
    }

    private long tide(int hour) {
        long m = Math.floorMod((long) hour * moonNow, (long) MOONS);
        return 6 - Math.abs(m - 6);
    }

    private static long scaled(long value, int times, int by) {
        return by < 1 ? 0 : Math.floorDiv(value * times, (long) by);
    }

    private static long banded(long value, Rule band) {
        if (value < band.d) {
            return band.b;
        }
        return value > band.e ? band.c : value;
    }

    /** One hour of the works; false if a sluice's rule failed, which ends it there. */
    private boolean goesWhole(int hour) {
        for (int number = 0; number < sluices.length && sluices[number] != null; number++) {
            Sluice sluice = sluices[number];
            long opening = askByCall(sluice.rule, hour);
            if (failure != 0) {
                failedSluice = number;
                failedBy = failure;
                return false;
            }
            wentOver = letOver(sluice, opening);
        }
        return true;
    }

    private int letOver(Sluice sluice, long opening) {
        int there = level(sluice.from);
        int space = HIGHEST_LEVEL - level(sluice.to);
        int amount = (int) Math.max(0L, Math.min(opening, (long) Math.min(there, space)));
        fill(sluice.from, there - amount);
        fill(sluice.to, level(sluice.to) + amount);
        return amount;
    }
}
