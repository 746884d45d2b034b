/** The edges of promises 1 to 4 and 12: a new object, basins and the moon. */
public final class BasinEdges extends Checks {
    // Promise 1: a new object.

    private static void nothingAtFirst() {
        SluiceRules x = new SluiceRules();
        due("basins", x.count(0), 0);
        due("rules", x.count(1), 0);
        due("sluices", x.count(2), 0);
        due("level", x.level(0), UNKNOWN);
        due("fill", x.fill(0, 0), UNKNOWN);
        due("ask", x.ask(0, 0), UNKNOWN);
        due("put", x.put(0, 0), UNKNOWN);
        due("counted", x.counted(0), UNKNOWN);
        due("sluice", x.sluice(0, 1, 0), UNKNOWN);
        due("run", x.run(0, 1), 1);
    }

    private static void objectsShareNothing() {
        SluiceRules first = works();
        String before = answersOf(new SluiceRules());
        first.fill(0, 3);
        due("a new object beside others is another", before.equals(answersOf(new SluiceRules())) ? 1 : 0, 1);
        due("level of the first", first.level(0), 3);
        due("rules of the first", first.count(1), 7);
    }

    private static void slotsHaveNoneAtFirst() {
        SluiceRules x = new SluiceRules();
        for (int slot = 0; slot < 8; slot++) {
            due("slot " + slot, x.count(8 + slot), NONE);
            due("ask of slot " + slot, x.ask(made(x, SLOT, slot), 0), MISSING);
            due("put in slot " + slot, x.put(slot, 0), NONE);
        }
    }

    private static void moonIsOneAtFirst() {
        SluiceRules x = new SluiceRules();
        gives("tide at 5", x, made(x, TIDE), 5, 5);
        due("moon", x.moon(4), 1);
    }

    private static void last512thCall() {
        SluiceRules x = new SluiceRules();
        due("basin", x.basin(0), 0);
        due("rule", made(x, COUNTED, made(x, HOUR)), 1);
        for (int i = 4; i < 511; i++) {
            due("ask as call " + i, x.ask(1, i), 1);
        }
        due("call 511", x.given(), 510);
        due("call 512", x.counted(1), 507);
    }

    // Promise 2: basin.

    private static void eightBasinsAsTheyCome() {
        SluiceRules x = new SluiceRules();
        for (int i = 0; i < 8; i++) {
            due("basin " + i, x.basin(10 * i), i);
        }
        levels(x, 0, 10, 20, 30, 40, 50, 60, 70);
    }

    private static void refusedBasinTakesNoNumber() {
        SluiceRules x = new SluiceRules();
        due("refused", x.basin(-1), OUTSIDE);
        due("first", x.basin(4), 0);
        due("refused", x.basin(FULL + 1), OUTSIDE);
        due("second", x.basin(5), 1);
        levels(x, 4, 5);
    }

    private static void lowestAndHighestBasin() {
        SluiceRules x = new SluiceRules();
        due("lowest", x.basin(0), 0);
        due("highest", x.basin(FULL), 1);
        levels(x, 0, FULL);
    }

    private static void basinTooLow() {
        refused("-1", OUTSIDE, Checks::works, x -> x.basin(-1));
        refused("MIN", OUTSIDE, Checks::works, x -> x.basin(MIN));
    }

    private static void basinTooHigh() {
        refused("1000000001", OUTSIDE, Checks::works, x -> x.basin(FULL + 1));
        refused("MAX", OUTSIDE, Checks::works, x -> x.basin(MAX));
    }

    private static void ninthBasin() {
        refused("ninth", ROOM, Checks::fullWorks, x -> x.basin(0));
        refused("tenth", ROOM, Checks::fullWorks, x -> {
            x.basin(0);
            return x.basin(FULL);
        });
    }

    private static void ninthBasinOutside() {
        refused("ninth, too low", OUTSIDE, Checks::fullWorks, x -> x.basin(-1));
        refused("ninth, too high", OUTSIDE, Checks::fullWorks, x -> x.basin(FULL + 1));
    }

    // Promise 3: fill.

    private static void fillAnswersWhichItWas() {
        SluiceRules x = works();
        due("to the highest", x.fill(1, FULL), 12);
        due("to the lowest", x.fill(1, 0), FULL);
        due("the same", x.fill(1, 0), 0);
        due("another", x.fill(1, 8), 0);
        levels(x, 63, 8, FULL);
    }

    private static void fillOfNoBasin() {
        int[] notBasins = {NONE, 3, 7, 8, MIN, MAX};
        for (int basin : notBasins) {
            refused("basin " + basin, UNKNOWN, Checks::works, x -> x.fill(basin, 1));
        }
        refused("basin 8 of 8", UNKNOWN, Checks::fullWorks, x -> x.fill(8, 1));
    }

    private static void fillOutside() {
        int[] notLevels = {-1, FULL + 1, MIN, MAX};
        for (int level : notLevels) {
            refused("level " + level, OUTSIDE, Checks::works, x -> x.fill(0, level));
        }
    }

    private static void fillUnknownAheadOfOutside() {
        refused("both", UNKNOWN, Checks::works, x -> x.fill(3, -1));
        refused("both", UNKNOWN, Checks::works, x -> x.fill(NONE, FULL + 1));
    }

    // Promise 4: moon.

    private static void lowestAndHighestMoon() {
        SluiceRules x = new SluiceRules();
        int tide = made(x, TIDE);
        due("to 0", x.moon(0), 1);
        gives("tide by moon 0", x, tide, 5, 0);
        due("to 11", x.moon(11), 0);
        gives("tide by moon 11", x, tide, 2, 2);
        gives("tide by moon 11", x, tide, 5, 5);
        due("which it was", x.moon(11), 11);
    }

    private static void moonOutside() {
        int[] notMoons = {-1, 12, MIN, MAX};
        for (int moon : notMoons) {
            refused("moon " + moon, OUTSIDE, Checks::works, x -> x.moon(moon));
        }
        SluiceRules x = new SluiceRules();
        due("refused", x.moon(12), OUTSIDE);
        due("still the first one", x.moon(2), 1);
    }

    // Promise 12: level.

    private static void levelUnknown() {
        int[] notBasins = {NONE, 3, 7, 8, MIN, MAX};
        for (int basin : notBasins) {
            refused("basin " + basin, UNKNOWN, Checks::works, x -> x.level(basin));
        }
        refused("basin 8 of 8", UNKNOWN, Checks::fullWorks, x -> x.level(8));
    }

    private static void lowestAndHighestLevel() {
        SluiceRules x = fullWorks();
        x.fill(7, 0);
        due("empty", x.level(7), 0);
        due("full", x.level(2), FULL);
    }

    private static void edgesOfNewObject() {
        check(1, "No BASINS, RULES, SLUICES.", BasinEdges::nothingAtFirst);
        check(1, "A new object: it shares nothing", BasinEdges::objectsShareNothing);
        check(1, "SLOTS 0 .. 7 have a RULE or NONE (so at first).", BasinEdges::slotsHaveNoneAtFirst);
        check(1, "The MOON is a number 0 .. 11 (1 at first).", BasinEdges::moonIsOneAtFirst);
        check(1, "at most 512 calls after it has been made", BasinEdges::last512thCall);
    }

    private static void edgesOfBasin() {
        check(2, "BASINS 0 .. 7, as they come", BasinEdges::eightBasinsAsTheyCome);
        check(2, "Refusals, and nothing changes: its number", BasinEdges::refusedBasinTakesNoNumber);
        check(2, "a LEVEL 0 .. 1000000000", BasinEdges::lowestAndHighestBasin);
        check(2, "OUTSIDE: too low", BasinEdges::basinTooLow);
        check(2, "OUTSIDE: too high", BasinEdges::basinTooHigh);
        check(2, "ROOM", BasinEdges::ninthBasin);
        check(2, "of several the first: OUTSIDE; ROOM", BasinEdges::ninthBasinOutside);
    }

    private static void edgesOfFill() {
        check(3, "A BASIN's LEVEL is another one: which it was.", BasinEdges::fillAnswersWhichItWas);
        check(3, "UNKNOWN (no such BASIN)", BasinEdges::fillOfNoBasin);
        check(3, "OUTSIDE (a LEVEL 0 .. 1000000000)", BasinEdges::fillOutside);
        check(3, "of several the first: UNKNOWN; OUTSIDE", BasinEdges::fillUnknownAheadOfOutside);
    }

    private static void edgesOfMoon() {
        check(4, "The MOON is another one (0 .. 11): which it was.", BasinEdges::lowestAndHighestMoon);
        check(4, "OUTSIDE", BasinEdges::moonOutside);
    }

    private static void edgesOfLevel() {
        check(12, "UNKNOWN", BasinEdges::levelUnknown);
        check(12, "Of a BASIN: its LEVEL (0 .. 1000000000)", BasinEdges::lowestAndHighestLevel);
    }

    public static void main(String[] args) {
        edgesOfNewObject();
        edgesOfBasin();
        edgesOfFill();
        edgesOfMoon();
        edgesOfLevel();
        end();
    }
}
