import java.util.function.IntSupplier;

/** At least one test for each promise of the document: ordinary inputs, edges, wrong inputs. */
public final class PromiseTests {
    private static final int NONE = -1, UNKNOWN = -101, OUTSIDE = -102, ROOM = -103, MISSING = -201, SPENT = -202;
    private static final int FLAT = 0, LEVEL = 1, TIDE = 2, HOUR = 3, SUM = 4, LESS = 5, LEAST = 6, MOST = 7,
            SCALED = 8, WHEN = 9, LATER = 10, BAND = 11, HELD = 12, COUNTED = 13, COUNT = 14, SLOT = 15, ALL = 16;
    private static final int MIN = Integer.MIN_VALUE, MAX = Integer.MAX_VALUE, FULL = 1000000000;
    /** Stands where a kind does not look. */
    private static final int UNREAD = -77;

    private static int wrong = 0;
    private static String part = "";

    private static void due(String what, long got, long want) {
        if (got != want) {
            wrong++;
            System.out.println(part + ": " + what + " answered " + got + ", due is " + want);
        }
    }

    private static int made(SluiceRules x, int kind, int... parts) {
        int[] p = {UNREAD, UNREAD, UNREAD, UNREAD, UNREAD};
        System.arraycopy(parts, 0, p, 0, parts.length);
        return x.make(kind, p[0], p[1], p[2], p[3], p[4]);
    }

    /** The rule is asked, must answer 1, and must give this. */
    private static void gives(String what, SluiceRules x, int rule, int hour, long want) {
        due("ask of " + what, x.ask(rule, hour), 1);
        due("given of " + what, x.given(), want);
    }

    private static void steps(String what, SluiceRules x, int want) {
        due("steps of " + what, x.count(3), want);
    }

    /** What every answer about the state tells, as one text, to see that a refusal changed nothing. */
    private static String stateOf(SluiceRules x) {
        StringBuilder text = new StringBuilder();
        text.append(x.given());
        for (int i = -1; i < 41; i++) {
            text.append(' ').append(x.level(i)).append(' ').append(x.counted(i));
            text.append(' ').append(x.told(i)).append(' ').append(x.count(i));
        }
        return text.toString();
    }

    private static void refused(String what, SluiceRules x, IntSupplier call, int want) {
        String before = stateOf(x);
        due(what, call.getAsInt(), want);
        due(what + " changed something: 1", stateOf(x).equals(before) ? 0 : 1, 0);
    }

    /** Two basins (70 and 5), rules FLAT 7, COUNTED of it, SUM of that and NONE; one ask, one run done. */
    private static SluiceRules works() {
        SluiceRules x = new SluiceRules();
        x.basin(70);
        x.basin(5);
        made(x, FLAT, 7);
        made(x, COUNTED, 0);
        made(x, SUM, 1, NONE);
        x.put(3, 1);
        x.sluice(0, 1, 1);
        x.sluice(1, 0, 2);
        x.ask(1, 0);
        x.run(0, 1);
        return x;
    }

    private static void newObject() {
        part = "1 a new object";
        SluiceRules x = new SluiceRules();
        for (int what = 0; what < 4; what++) {
            due("count " + what, x.count(what), 0);
        }
        for (int slot = 0; slot < 8; slot++) {
            due("slot " + slot, x.count(8 + slot), NONE);
        }
        due("level", x.level(0), UNKNOWN);
        due("counted", x.counted(0), UNKNOWN);
        due("ask", x.ask(0, 0), UNKNOWN);
        due("given", x.given(), 0);
        due("told 0", x.told(0), NONE);
        due("told 1", x.told(1), 0);
        due("told 2", x.told(2), 0);
        due("run without sluices", x.run(5, 100), 100);
        due("moon at first", x.moon(0), 1);
        works();
        due("another object's basins", new SluiceRules().count(0), 0);
    }

    private static void basin() {
        part = "2 basin";
        SluiceRules x = new SluiceRules();
        int[] levels = {0, FULL, 1, 2, 3, 4, 5, 6};
        refused("below 0", x, () -> x.basin(-1), OUTSIDE);
        refused("above the highest", x, () -> x.basin(FULL + 1), OUTSIDE);
        refused("least int", x, () -> x.basin(MIN), OUTSIDE);
        refused("largest int", x, () -> x.basin(MAX), OUTSIDE);
        for (int i = 0; i < 8; i++) {
            due("basin " + i, x.basin(levels[i]), i);
            due("basins", x.count(0), i + 1);
        }
        for (int i = 0; i < 8; i++) {
            due("level " + i, x.level(i), levels[i]);
        }
        refused("ninth", x, () -> x.basin(0), ROOM);
        refused("ninth, outside", x, () -> x.basin(-1), OUTSIDE);
    }

    private static void fill() {
        part = "3 fill";
        SluiceRules x = works();
        int before = x.level(1);
        due("fill", x.fill(1, FULL), before);
        due("level", x.level(1), FULL);
        due("fill again", x.fill(1, 0), FULL);
        due("same level", x.fill(1, 0), 0);
        due("level 1", x.level(1), 0);
        due("level 0", x.level(0), 63);
        refused("no basin yet", x, () -> x.fill(2, 0), UNKNOWN);
        refused("never a basin", x, () -> x.fill(8, 0), UNKNOWN);
        refused("NONE", x, () -> x.fill(NONE, 0), UNKNOWN);
        refused("unknown first", x, () -> x.fill(2, -1), UNKNOWN);
        refused("below 0", x, () -> x.fill(0, -1), OUTSIDE);
        refused("too high", x, () -> x.fill(0, FULL + 1), OUTSIDE);
    }

    private static void moon() {
        part = "4 moon";
        SluiceRules x = new SluiceRules();
        due("first", x.moon(11), 1);
        due("second", x.moon(0), 11);
        refused("12", x, () -> x.moon(12), OUTSIDE);
        refused("-1", x, () -> x.moon(-1), OUTSIDE);
        due("kept", x.moon(5), 0);
        int tide = made(x, TIDE);
        gives("tide by moon 5", x, tide, 1, 5);
        gives("tide by moon 5, hour 2", x, tide, 2, 2);
        x.moon(0);
        gives("tide by moon 0", x, tide, 7, 0);
    }

    private static void plainKinds() {
        part = "5 make, plain kinds";
        SluiceRules x = new SluiceRules();
        x.basin(40);
        due("flat", made(x, FLAT, MIN), 0);
        due("level", made(x, LEVEL, 0), 1);
        due("tide", made(x, TIDE), 2);
        due("hour", made(x, HOUR), 3);
        gives("flat", x, 0, 9, MIN);
        gives("level", x, 1, 9, 40);
        x.fill(0, 41);
        gives("level as it is then", x, 1, 9, 41);
        int[] tides = {0, 1, 2, 3, 4, 5, 6, 5, 4, 3, 2, 1};
        for (int hour = -24; hour < 24; hour++) {
            gives("tide at " + hour, x, 2, hour, tides[(hour + 24) % 12]);
        }
        for (int moon = 0; moon < 12; moon++) {
            x.moon(moon);
            gives("tide of the largest hour, moon " + moon, x, 2, MAX, tides[(int) ((long) moon * MAX % 12)]);
            gives("tide of the least hour, moon " + moon, x, 2, MIN, tides[(int) ((long) moon * MIN % 12 + 12) % 12]);
        }
        gives("hour", x, 3, MIN, MIN);
        steps("one rule", x, 1);
    }

    private static void joiningKinds() {
        part = "5 make, joining kinds";
        SluiceRules x = new SluiceRules();
        made(x, FLAT, 9);
        made(x, HOUR);
        int sum = made(x, SUM, 0, 1);
        int less = made(x, LESS, 0, 1);
        int least = made(x, LEAST, 0, 1);
        int most = made(x, MOST, 0, 1);
        gives("sum", x, sum, -20, -11);
        gives("less", x, less, -20, 29);
        gives("less, below 0", x, less, 10, -1);
        gives("least", x, least, -20, -20);
        gives("least, other one", x, least, 20, 9);
        gives("most", x, most, -20, 9);
        gives("most, other one", x, most, 20, 20);
        steps("most", x, 3);
        int[] kinds = {SUM, LESS, LEAST, MOST};
        int counter = made(x, COUNTED, 1);
        int read = made(x, COUNT, counter);
        for (int i = 0; i < kinds.length; i++) {
            int ahead = made(x, kinds[i], counter, read);
            int behind = made(x, kinds[i], read, counter);
            long c = 2 * i + 1;
            // The counter must be what LEAST and MOST give, or their order would not show.
            int hour = kinds[i] == MOST ? -90 : 90;
            gives("a ahead of b, kind " + kinds[i], x, ahead, hour, join(kinds[i], hour, c));
            gives("count ahead, kind " + kinds[i], x, behind, hour, join(kinds[i], c, hour));
            steps("both, kind " + kinds[i], x, 4);
        }
    }

    private static long join(int kind, long a, long b) {
        return kind == SUM ? a + b : kind == LESS ? a - b : kind == LEAST ? Math.min(a, b) : Math.max(a, b);
    }

    private static void wrappingLongs() {
        part = "5 make, longs that wrap";
        SluiceRules x = new SluiceRules();
        made(x, FLAT, MIN);
        int big = made(x, SCALED, 0, MIN, 1);
        int least = made(x, SCALED, big, -2, 1);
        gives("2^62", x, big, 0, 1L << 62);
        gives("-2^63", x, least, 0, Long.MIN_VALUE);
        gives("sum wraps", x, made(x, SUM, least, least), 0, 0);
        gives("sum wraps to the least", x, made(x, SUM, big, big), 0, Long.MIN_VALUE);
        gives("less wraps", x, made(x, LESS, big, least), 0, (1L << 62) - Long.MIN_VALUE);
        gives("product wraps", x, made(x, SCALED, big, 4, 7), 0, 0);
        gives("product wraps ahead of the division", x, made(x, SCALED, big, 3, 1000), 0,
                Math.floorDiv(3L * (1L << 62), 1000L));
        gives("least by 1000", x, made(x, SCALED, least, 1, 1000), 0, -9223372036854776L);
        gives("least times -1", x, made(x, SCALED, least, -1, 1), 0, Long.MIN_VALUE);
        x.put(0, big);
        x.put(1, big);
        gives("sum of slots wraps", x, made(x, ALL, 0, 1), 0, Long.MIN_VALUE);
        gives("band of a long below", x, made(x, BAND, least, 1, 2, MIN, MAX), 0, 1);
        gives("band of a long above", x, made(x, BAND, big, 1, 2, MIN, MAX), 0, 2);
        gives("when of a long above 0", x, made(x, WHEN, big, 0, big), 0, MIN);
    }

    private static void choosingKinds() {
        part = "5 make, choosing kinds";
        SluiceRules x = new SluiceRules();
        int hour = made(x, HOUR);
        int half = made(x, SCALED, hour, 1, 2);
        gives("half", x, half, 7, 3);
        gives("half downward", x, half, -7, -4);
        gives("half of an even one", x, half, -8, -4);
        int thousandth = made(x, SCALED, hour, -1, 1000);
        gives("thousandth", x, thousandth, 1, -1);
        int counter = made(x, COUNTED, hour);
        int flat = made(x, FLAT, 100);
        int when = made(x, WHEN, hour, counter, flat);
        gives("when above 0", x, when, 1, 1);
        steps("when above 0", x, 4);
        gives("when 0", x, when, 0, 100);
        steps("when 0", x, 3);
        gives("when below 0", x, when, -1, 100);
        due("what is not chosen is not asked", x.counted(counter), 1);
        int lacking = made(x, WHEN, hour, flat, NONE);
        gives("lacking part is not chosen", x, lacking, 1, 100);
        due("lacking part is chosen", x.ask(lacking, 0), MISSING);
        steps("lacking part", x, 2);
        int later = made(x, LATER, hour, MAX);
        gives("later", x, later, 0, MAX);
        gives("later wraps", x, later, 1, MIN);
        gives("later of later", x, made(x, LATER, later, MAX), 0, -2);
        gives("hour beside later is its own", x, made(x, LESS, later, hour), 5, (long) (MIN + 4) - 5);
        int band = made(x, BAND, hour, 50, -50, -3, 3);
        gives("band, lower edge", x, band, -3, -3);
        gives("band, below", x, band, -4, 50);
        gives("band, upper edge", x, band, 3, 3);
        gives("band, above", x, band, 4, -50);
        int point = made(x, BAND, hour, 1, 2, 0, 0);
        gives("band of one number", x, point, 0, 0);
        gives("band of one number, above", x, point, 1, 2);
    }

    private static void heldKind() {
        part = "5 make, held";
        SluiceRules x = new SluiceRules();
        x.basin(8);
        int level = made(x, LEVEL, 0);
        int hour = made(x, HOUR);
        int both = made(x, SUM, level, hour);
        int counter = made(x, COUNTED, both);
        int held = made(x, HELD, counter, -3);
        steps("held as it is made", x, 4);
        due("given is ask's", x.given(), 0);
        due("counted by held", x.counted(counter), 1);
        x.fill(0, 1000);
        gives("held", x, held, 77, 5);
        steps("held", x, 1);
        due("held asks no more", x.counted(counter), 1);
        due("held of held", made(x, HELD, held, 0), held + 1);
        int rules = x.count(1);
        int lacking = made(x, SUM, counter, NONE);
        due("held of a lacking one", made(x, HELD, lacking, 0), MISSING);
        steps("held of a lacking one", x, 5);
        due("counted stays", x.counted(counter), 2);
        due("no rule is made", x.count(1), rules + 1);
        due("held of NONE", made(x, HELD, NONE, 0), MISSING);
        steps("held of NONE", x, 0);
        int slot = made(x, SLOT, 4);
        x.put(4, slot);
        due("held of itself", made(x, HELD, slot, 0), SPENT);
        steps("held of itself", x, 120);
        due("next number", made(x, FLAT, 0), rules + 2);
        due("given stays", x.given(), 5);
    }

    private static void countingKinds() {
        part = "5 make, counting kinds";
        SluiceRules x = new SluiceRules();
        int hour = made(x, HOUR);
        int first = made(x, COUNTED, hour);
        int second = made(x, COUNTED, first);
        int read = made(x, COUNT, first);
        int inside = made(x, COUNTED, NONE);
        gives("count at first", x, read, 0, 0);
        steps("count", x, 1);
        gives("counted", x, first, 4, 4);
        gives("counted of counted", x, second, 5, 5);
        steps("counted of counted", x, 3);
        gives("count as it is then", x, read, 0, 2);
        due("second", x.counted(second), 1);
        due("counted lacking its part", x.ask(inside, 0), MISSING);
        due("counts ahead of that", x.counted(inside), 1);
        steps("counted lacking its part", x, 1);
        int twice = made(x, SUM, first, first);
        gives("asked twice", x, twice, 3, 6);
        due("counts twice", x.counted(first), 4);
        int self = made(x, COUNTED, made(x, COUNT, first));
        gives("a counter's reader that is counted", x, self, 0, 4);
    }

    private static void slotKinds() {
        part = "5 make, slot kinds";
        SluiceRules x = new SluiceRules();
        int hour = made(x, HOUR);
        int counter = made(x, COUNTED, hour);
        int read = made(x, COUNT, counter);
        int slot = made(x, SLOT, 7);
        int all = made(x, ALL, 5, 7);
        int one = made(x, ALL, 0, 0);
        due("empty slot", x.ask(slot, 1), MISSING);
        steps("empty slot", x, 1);
        x.put(7, hour);
        gives("slot", x, slot, 6, 6);
        steps("slot", x, 2);
        x.put(7, counter);
        gives("slot, changed", x, slot, 6, 6);
        x.put(5, counter);
        x.put(7, read);
        due("all, one empty", x.ask(all, 10), MISSING);
        steps("all, one empty", x, 3);
        due("counted ahead of the empty one", x.counted(counter), 2);
        x.put(6, read);
        gives("all, in order", x, all, 10, 10 + 3 + 3);
        steps("all", x, 5);
        x.put(5, read);
        x.put(7, counter);
        gives("all, the other order", x, all, 10, 3 + 3 + 10);
        x.put(0, read);
        gives("all of one slot", x, one, 0, 4);
        steps("all of one slot", x, 2);
    }

    private static void makeRefusals() {
        part = "5 make, refusals";
        SluiceRules x = works();
        int[] notKinds = {-1, 17, MIN, MAX};
        for (int kind : notKinds) {
            refused("kind " + kind, x, () -> made(x, kind, 0, 0, 1, 0, 0), UNKNOWN);
        }
        int[] notBasins = {NONE, 2, 8, MIN, MAX};
        for (int basin : notBasins) {
            refused("level of basin " + basin, x, () -> made(x, LEVEL, basin), UNKNOWN);
        }
        int[] notRules = {-2, 3, 39, 40, MIN, MAX};
        for (int rule : notRules) {
            for (int kind = SUM; kind <= COUNT; kind++) {
                int k = kind;
                refused("kind " + k + " of rule a " + rule, x, () -> made(x, k, rule, 0, 1, 0, 0), UNKNOWN);
            }
            for (int kind = SUM; kind <= MOST; kind++) {
                int k = kind;
                refused("kind " + k + " of rule b " + rule, x, () -> made(x, k, 0, rule), UNKNOWN);
            }
            refused("when of rule b " + rule, x, () -> made(x, WHEN, 0, rule, 0), UNKNOWN);
            refused("when of rule c " + rule, x, () -> made(x, WHEN, 0, 0, rule), UNKNOWN);
        }
        refused("count of a flat", x, () -> made(x, COUNT, 0), UNKNOWN);
        refused("count of a sum", x, () -> made(x, COUNT, 2), UNKNOWN);
        refused("count of NONE", x, () -> made(x, COUNT, NONE), UNKNOWN);
        int[] notSlots = {-1, 8, MIN, MAX};
        for (int slot : notSlots) {
            refused("slot " + slot, x, () -> made(x, SLOT, slot), UNKNOWN);
            refused("all from " + slot, x, () -> made(x, ALL, slot, 7), UNKNOWN);
            refused("all up to " + slot, x, () -> made(x, ALL, 0, slot), UNKNOWN);
        }
        refused("all downward", x, () -> made(x, ALL, 1, 0), OUTSIDE);
        int[] notDivisors = {0, -1, 1001, MIN, MAX};
        for (int by : notDivisors) {
            refused("scaled by " + by, x, () -> made(x, SCALED, 0, 1, by), OUTSIDE);
            refused("unknown ahead of outside", x, () -> made(x, SCALED, 3, 1, by), UNKNOWN);
        }
        refused("band downward", x, () -> made(x, BAND, 0, 1, 1, 1, 0), OUTSIDE);
        refused("band of the ends", x, () -> made(x, BAND, NONE, 1, 1, MAX, MIN), OUTSIDE);
        refused("band, unknown ahead", x, () -> made(x, BAND, 3, 1, 1, 1, 0), UNKNOWN);
        due("next number", made(x, SCALED, NONE, 1, 1000), 3);
    }

    private static void makeOfNone() {
        part = "5 make, of NONE";
        SluiceRules x = new SluiceRules();
        int[] kinds = {SUM, LESS, LEAST, MOST, SCALED, WHEN, LATER, BAND, COUNTED};
        for (int i = 0; i < kinds.length; i++) {
            due("kind " + kinds[i], x.make(kinds[i], NONE, NONE, kinds[i] == SCALED ? 1 : NONE, 0, 0), i);
            due("ask of kind " + kinds[i], x.ask(i, 0), MISSING);
            steps("kind " + kinds[i], x, 1);
        }
    }

    private static void makeRoom() {
        part = "5 make, room";
        SluiceRules x = new SluiceRules();
        made(x, COUNTED, made(x, HOUR));
        for (int i = 2; i < 40; i++) {
            due("rule " + i, made(x, FLAT, i), i);
        }
        due("rules", x.count(1), 40);
        refused("one more", x, () -> made(x, FLAT, 0), ROOM);
        refused("held is not asked", x, () -> made(x, HELD, 1, 0), ROOM);
        refused("held of NONE is not asked", x, () -> made(x, HELD, NONE, 0), ROOM);
        refused("unknown ahead", x, () -> made(x, HELD, 40, 0), UNKNOWN);
        refused("outside ahead", x, () -> made(x, ALL, 1, 0), OUTSIDE);
        gives("the last one", x, 39, 0, 39);
    }

    private static void put() {
        part = "6 put";
        SluiceRules x = works();
        due("slot 0", x.put(0, 2), NONE);
        due("slot 0 again", x.put(0, 0), 2);
        due("slot 7", x.put(7, 1), NONE);
        due("count of slot 0", x.count(8), 0);
        due("count of slot 7", x.count(15), 1);
        due("NONE", x.put(7, NONE), 1);
        due("NONE again", x.put(7, NONE), NONE);
        refused("slot -1", x, () -> x.put(-1, 0), UNKNOWN);
        refused("slot 8", x, () -> x.put(8, 0), UNKNOWN);
        refused("slot 8 and NONE", x, () -> x.put(8, NONE), UNKNOWN);
        refused("rule to come", x, () -> x.put(0, 3), UNKNOWN);
        refused("rule 40", x, () -> x.put(0, 40), UNKNOWN);
        refused("rule -2", x, () -> x.put(0, -2), UNKNOWN);
    }

    private static void ask() {
        part = "7 ask";
        SluiceRules x = works();
        int[] notRules = {NONE, 3, 40, MIN, MAX};
        for (int rule : notRules) {
            refused("rule " + rule, x, () -> x.ask(rule, 0), UNKNOWN);
        }
        int before = x.counted(1);
        gives("counted", x, 1, 0, 7);
        due("missing", x.ask(2, 0), MISSING);
        steps("missing", x, 3);
        due("counted stays", x.counted(1), before + 2);
        due("lacking in front", x.ask(made(x, SUM, NONE, 1), 0), MISSING);
        due("fails at once", x.counted(1), before + 2);
        int nothing = made(x, SLOT, 0);
        int failing = made(x, ALL, 0, 3);
        due("a failing slot ends all", x.ask(failing, 0), MISSING);
        due("fails at once in all", x.counted(1), before + 2);
        x.put(0, nothing);
        due("spent", x.ask(nothing, 0), SPENT);
        steps("spent", x, 120);
        x.put(1, failing);
        due("after spent no counting", x.ask(made(x, SUM, nothing, 1), 0), SPENT);
        due("counter", x.counted(1), before + 2);
        gives("a new asking starts from 0", x, 0, 0, 7);
        steps("a new asking", x, 1);
    }

    /** Slots 0 .. 3 take up 90 steps and some more, so that slot 4's rule would be about the 120th one. */
    private static void askAtTheLimit() {
        part = "7 ask, at the limit";
        SluiceRules x = new SluiceRules();
        int flat = made(x, FLAT, 1);
        // Rule k asks k rules in a chain: k + 1 steps.
        for (int k = 1; k < 30; k++) {
            made(x, LATER, k - 1, 0);
        }
        int counter = made(x, COUNTED, NONE);
        int all = made(x, ALL, 0, 4);
        x.put(0, 29);
        x.put(1, 29);
        x.put(2, 29);
        x.put(3, 27);
        due("NONE after 119 steps", x.ask(all, 0), MISSING);
        steps("NONE after 119 steps", x, 119);
        x.put(4, flat);
        gives("a rule after 119 steps", x, all, 0, 5);
        steps("a rule after 119 steps", x, 120);
        x.put(4, counter);
        due("the 120th is asked, and lacks a part", x.ask(all, 0), MISSING);
        due("and has counted", x.counted(counter), 1);
        x.put(3, 28);
        due("the 121st is not asked", x.ask(all, 0), SPENT);
        steps("the 121st", x, 120);
        due("and has not counted", x.counted(counter), 1);
        x.put(4, NONE);
        due("NONE after 120 steps is no step", x.ask(all, 0), MISSING);
        steps("NONE after 120 steps", x, 120);
    }

    private static void given() {
        part = "8 given";
        SluiceRules x = works();
        due("by ask, not by run", x.given(), 7);
        int hour = made(x, HOUR);
        x.ask(hour, -9);
        due("latest", x.given(), -9);
        due("again", x.given(), -9);
        x.ask(2, 0);
        due("not of one that failed", x.given(), -9);
        x.ask(99, 0);
        due("not of one refused", x.given(), -9);
        made(x, HELD, hour, 4);
        due("not of held", x.given(), -9);
        x.run(3, 1);
        due("not of run", x.given(), -9);
        SluiceRules y = new SluiceRules();
        made(y, COUNTED, NONE);
        y.ask(0, 0);
        due("0 without", y.given(), 0);
    }

    private static void sluice() {
        part = "9 sluice";
        SluiceRules x = works();
        refused("from", x, () -> x.sluice(2, 0, 0), UNKNOWN);
        refused("to", x, () -> x.sluice(0, 2, 0), UNKNOWN);
        refused("from NONE", x, () -> x.sluice(NONE, 0, 0), UNKNOWN);
        refused("to MAX", x, () -> x.sluice(0, MAX, 0), UNKNOWN);
        refused("rule", x, () -> x.sluice(0, 1, 3), UNKNOWN);
        refused("rule NONE", x, () -> x.sluice(0, 1, NONE), UNKNOWN);
        refused("one basin", x, () -> x.sluice(1, 1, 0), OUTSIDE);
        refused("unknown ahead", x, () -> x.sluice(1, 1, 3), UNKNOWN);
        for (int i = 2; i < 8; i++) {
            due("sluice " + i, x.sluice(i % 2, 1 - i % 2, 0), i);
            due("sluices", x.count(2), i + 1);
        }
        refused("ninth", x, () -> x.sluice(0, 1, 0), ROOM);
        refused("ninth, outside ahead", x, () -> x.sluice(0, 0, 0), OUTSIDE);
        refused("ninth, unknown ahead", x, () -> x.sluice(0, 1, 3), UNKNOWN);
    }

    private static void run() {
        part = "10 run";
        SluiceRules x = new SluiceRules();
        x.basin(100);
        x.basin(0);
        x.basin(FULL - 4);
        int hour = made(x, HOUR);
        int second = made(x, LEVEL, 1);
        x.sluice(0, 1, hour);
        x.sluice(1, 2, second);
        due("one hour", x.run(3, 1), 1);
        levels(x, 97, 0, FULL - 1);
        due("hours go on, one by one", x.run(4, 3), 3);
        levels(x, 97 - 15, 14, FULL);
        due("below 0 nothing goes", x.run(-5, 5), 5);
        levels(x, 82, 14, FULL);
        due("no more than there is", x.run(80, 2), 2);
        levels(x, 0, 96, FULL);
        due("no hours", x.run(80, 0), 0);
        x.fill(0, 1000);
        due("wraps after the largest hour", x.run(MAX, 3), 3);
        levels(x, 0, 1096, FULL);
        x.fill(0, FULL);
        x.fill(1, 0);
        due("100 hours", x.run(1, 100), 100);
        levels(x, FULL - 5050, 5050, FULL);
        refused("101", x, () -> x.run(0, 101), OUTSIDE);
        refused("-1", x, () -> x.run(0, -1), OUTSIDE);
        refused("MIN", x, () -> x.run(0, MIN), OUTSIDE);
        refused("MAX", x, () -> x.run(0, MAX), OUTSIDE);
    }

    private static void levels(SluiceRules x, int... levels) {
        for (int i = 0; i < levels.length; i++) {
            due("level " + i, x.level(i), levels[i]);
        }
    }

    private static void runWithLongs() {
        part = "10 run, long openings";
        SluiceRules x = new SluiceRules();
        x.basin(30);
        x.basin(FULL - 10);
        made(x, FLAT, MIN);
        int huge = made(x, SCALED, 0, MIN, 1);
        int low = made(x, SCALED, huge, 2, 1);
        x.sluice(0, 1, low);
        due("far below 0", x.run(0, 1), 1);
        levels(x, 30, FULL - 10);
        x.sluice(0, 1, huge);
        due("2^62", x.run(0, 1), 1);
        levels(x, 20, FULL);
        due("went over", x.told(2), 10);
    }

    private static void runThatFails() {
        part = "10 run, failing";
        SluiceRules x = new SluiceRules();
        x.basin(100);
        x.basin(0);
        int hour = made(x, HOUR);
        int counter = made(x, COUNTED, hour);
        int slow = made(x, LATER, hour, -2);
        int when = made(x, WHEN, slow, NONE, counter);
        x.sluice(0, 1, counter);
        x.sluice(1, 0, when);
        x.sluice(0, 1, counter);
        due("two whole hours", x.run(1, 5), 2);
        levels(x, 100 - 1 - 2 - 3, 6);
        due("counted", x.counted(counter), 7);
        steps("the last sluice asked", x, 3);
        due("told 0", x.told(0), 1);
        due("told 1", x.told(1), MISSING);
        due("told 2", x.told(2), 3);
        due("steps from 0 for every sluice", x.run(-99, 100), 100);
        due("told 0 of a whole run", x.told(0), NONE);
        x.put(0, made(x, SLOT, 0));
        x.sluice(1, 0, x.count(8));
        due("spent", x.run(0, 2), 0);
        due("told 0", x.told(0), 3);
        due("told 1", x.told(1), SPENT);
        steps("spent", x, 120);
    }

    private static void told() {
        part = "11 told";
        SluiceRules x = works();
        due("failed", x.told(0), 1);
        due("by what", x.told(1), MISSING);
        due("went over", x.told(2), 7);
        x.run(0, 101);
        due("not of one refused", x.told(0), 1);
        int[] notWhats = {-1, 3, MIN, MAX};
        for (int what : notWhats) {
            refused("what " + what, x, () -> x.told(what), UNKNOWN);
        }
        x.ask(2, 0);
        due("not of ask", x.told(2), 7);
        x.run(0, 0);
        due("no hours: failed", x.told(0), NONE);
        due("no hours: by what", x.told(1), 0);
        due("no hours: went over", x.told(2), 0);
        SluiceRules y = new SluiceRules();
        y.basin(9);
        y.basin(0);
        made(y, HOUR);
        int gate = made(y, WHEN, 0, NONE, 0);
        int counter = made(y, COUNTED, gate);
        made(y, FLAT, 4);
        y.sluice(0, 1, counter);
        y.sluice(0, 1, 3);
        due("last of an earlier hour", y.run(0, 2), 1);
        due("failed", y.told(0), 0);
        due("went over an hour ago", y.told(2), 4);
        due("first fails", y.run(1, 2), 0);
        due("none went over", y.told(2), 0);
        y.run(-1, 2);
        due("less than asked for", y.told(2), 1);
    }

    private static void level() {
        part = "12 level";
        SluiceRules x = works();
        due("0", x.level(0), 63);
        due("1", x.level(1), 12);
        int[] notBasins = {-1, 2, 7, 8, MIN, MAX};
        for (int basin : notBasins) {
            refused("basin " + basin, x, () -> x.level(basin), UNKNOWN);
        }
    }

    private static void counted() {
        part = "13 counted";
        SluiceRules x = works();
        due("by ask, run and a rule", x.counted(1), 3);
        due("again", x.counted(1), 3);
        int other = made(x, COUNTED, 1);
        due("at first", x.counted(other), 0);
        int read = made(x, COUNT, 1);
        int[] notCounted = {0, 2, read, NONE, 5, 40, MIN, MAX};
        for (int rule : notCounted) {
            refused("rule " + rule, x, () -> x.counted(rule), UNKNOWN);
        }
    }

    private static void count() {
        part = "14 count";
        SluiceRules x = works();
        due("basins", x.count(0), 2);
        due("rules", x.count(1), 3);
        due("sluices", x.count(2), 2);
        due("steps", x.count(3), 3);
        for (int slot = 0; slot < 8; slot++) {
            due("slot " + slot, x.count(8 + slot), slot == 3 ? 1 : NONE);
        }
        int[] notWhats = {-1, 4, 5, 6, 7, 16, MIN, MIN + 7, MAX};
        for (int what : notWhats) {
            refused("what " + what, x, () -> x.count(what), UNKNOWN);
        }
        x.ask(0, 0);
        due("steps of ask", x.count(3), 1);
        x.ask(77, 0);
        due("steps, refused", x.count(3), 1);
        made(x, HELD, 1, 0);
        due("steps of held", x.count(3), 2);
        x.run(0, 0);
        due("steps, nothing asked", x.count(3), 2);
    }

    public static void main(String[] args) {
        newObject();
        basin();
        fill();
        moon();
        plainKinds();
        joiningKinds();
        wrappingLongs();
        choosingKinds();
        heldKind();
        countingKinds();
        slotKinds();
        makeRefusals();
        makeOfNone();
        makeRoom();
        put();
        ask();
        askAtTheLimit();
        given();
        sluice();
        run();
        runWithLongs();
        runThatFails();
        told();
        level();
        counted();
        count();
        System.out.println(wrong == 0 ? "all answers are as due" : wrong + " answers are not as due");
        if (wrong != 0) {
            System.exit(1);
        }
    }
}
