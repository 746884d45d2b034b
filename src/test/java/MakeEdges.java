/** The edges of promise 5: the numbers and parts of rules, and refusals. */
public final class MakeEdges extends Checks {
    // Promise 5: make, its numbers and parts.

    private static void rulesAreFortyAtMost() {
        SluiceRules x = new SluiceRules();
        for (int i = 0; i < 40; i++) {
            due("rule " + i, made(x, FLAT, 100 + i), i);
        }
        due("rules", x.count(1), 40);
        gives("the first", x, 0, 0, 100);
        gives("the last", x, 39, 0, 139);
    }

    private static void rule41() {
        for (int kind = FLAT; kind <= ALL; kind++) {
            int k = kind;
            refused("kind " + k, ROOM, Checks::fullWorks, x -> made(x, k, 1, 1, 1, 1, 1));
        }
    }

    private static void refusedRuleTakesNoNumber() {
        SluiceRules x = new SluiceRules();
        due("first", made(x, HOUR), 0);
        due("unknown", made(x, 17), UNKNOWN);
        due("outside", made(x, SCALED, 0, 1, 0), OUTSIDE);
        due("second", made(x, FLAT, 3), 1);
        gives("second", x, 1, 0, 3);
    }

    private static void partsAreRulesThatThereAre() {
        refused("of itself", UNKNOWN, Checks::works, x -> made(x, COUNTED, 7));
        SluiceRules x = works();
        due("of the last one", made(x, COUNTED, 6), 7);
        due("of what was to come", made(x, COUNTED, 7), 8);
    }

    private static void everyKindMayLackItsParts() {
        int[] kinds = {SUM, LESS, LEAST, MOST, SCALED, WHEN, LATER, BAND, COUNTED};
        SluiceRules x = new SluiceRules();
        for (int i = 0; i < kinds.length; i++) {
            due("kind " + kinds[i], x.make(kinds[i], NONE, NONE, kinds[i] == SCALED ? 1 : NONE, 0, 0), i);
            due("ask of kind " + kinds[i], x.ask(i, 0), MISSING);
        }
    }

    private static void secondPartLacks() {
        SluiceRules x = new SluiceRules();
        int one = made(x, FLAT, 1);
        int zero = made(x, FLAT, 0);
        for (int kind = SUM; kind <= MOST; kind++) {
            due("kind " + kind, x.ask(made(x, kind, one, NONE), 0), MISSING);
        }
        due("when above 0", x.ask(made(x, WHEN, one, NONE, one), 0), MISSING);
        due("when not above 0", x.ask(made(x, WHEN, zero, one, NONE), 0), MISSING);
        gives("when the lacking one is not chosen", x, made(x, WHEN, one, one, NONE), 0, 1);
        gives("when the lacking one is not chosen", x, made(x, WHEN, zero, NONE, zero), 0, 0);
    }

    private static void lackingForEver() {
        SluiceRules x = new SluiceRules();
        int lacking = made(x, COUNTED, NONE);
        for (int i = 1; i < 40; i++) {
            made(x, FLAT, i);
        }
        for (int slot = 0; slot < 8; slot++) {
            x.put(slot, 1);
        }
        due("after 39 rules more", x.ask(lacking, 0), MISSING);
        due("and again", x.ask(lacking, 1), MISSING);
    }

    /** Each kind with fit parts; where it names none, numbers that would be wrong for any other kind. */
    private static void unnamedIsNotLookedAt() {
        int[][] named = {{7}, {0}, {}, {}, {0, 1}, {0, 1}, {0, 1}, {0, 1}, {0, -3, 2}, {0, 1, 0}, {0, 5},
            {0, 1, 2, 3, 4}, {0, 6}, {0}, {1}, {3}, {3, 3}};
        long[] values = {7, 63, 4, 8, 14, 0, 7, 7, -11, 7, 7, 2, 7, 7, 3, 7, 7};
        int[] junk = {UNREAD, MIN, MAX, NONE, 41};
        for (int kind = FLAT; kind <= ALL; kind++) {
            for (int unread : junk) {
                int[] p = {unread, unread, unread, unread, unread};
                System.arraycopy(named[kind], 0, p, 0, named[kind].length);
                SluiceRules x = works();
                due("kind " + kind + " beside " + unread, x.make(kind, p[0], p[1], p[2], p[3], p[4]), 7);
                gives("kind " + kind + " beside " + unread, x, 7, 8, values[kind]);
            }
        }
    }

    // Promise 5: make, refused.

    private static void noSuchKind() {
        int[] notKinds = {-1, 17, MIN, MAX};
        for (int kind : notKinds) {
            refused("kind " + kind, UNKNOWN, Checks::works, x -> made(x, kind, 0, 0, 1, 0, 0));
        }
    }

    private static void levelOfNoBasin() {
        int[] notBasins = {NONE, 3, 8, MIN, MAX};
        for (int basin : notBasins) {
            refused("basin " + basin, UNKNOWN, Checks::works, x -> made(x, LEVEL, basin));
        }
        refused("basin 8 of 8", UNKNOWN, Checks::fullWorks, x -> made(x, LEVEL, 8));
    }

    private static void ofNoRule() {
        int[] notRules = {-2, 7, 39, 40, MIN, MAX};
        for (int rule : notRules) {
            for (int kind = SUM; kind <= COUNTED; kind++) {
                int k = kind;
                refused("kind " + k + ", a is " + rule, UNKNOWN, Checks::works, x -> made(x, k, rule, 0, 1, 0, 0));
            }
            for (int kind = SUM; kind <= MOST; kind++) {
                int k = kind;
                refused("kind " + k + ", b is " + rule, UNKNOWN, Checks::works, x -> made(x, k, 0, rule));
            }
            refused("when, b is " + rule, UNKNOWN, Checks::works, x -> made(x, WHEN, 0, rule, 0));
            refused("when, c is " + rule, UNKNOWN, Checks::works, x -> made(x, WHEN, 0, 0, rule));
        }
    }

    private static void countOfNoCounted() {
        int[] notCounted = {NONE, 0, 2, 3, 4, 5, 6, 7, 40, MIN, MAX};
        for (int rule : notCounted) {
            refused("rule " + rule, UNKNOWN, Checks::works, x -> made(x, COUNT, rule));
        }
    }

    private static void slotOfNoSlot() {
        int[] notSlots = {-1, 8, MIN, MAX};
        for (int slot : notSlots) {
            refused("slot " + slot, UNKNOWN, Checks::works, x -> made(x, SLOT, slot));
            refused("all from " + slot, UNKNOWN, Checks::works, x -> made(x, ALL, slot, 7));
            refused("all up to " + slot, UNKNOWN, Checks::works, x -> made(x, ALL, 0, slot));
        }
    }

    private static void scaledBy() {
        SluiceRules x = new SluiceRules();
        int hour = made(x, HOUR);
        gives("by 1", x, made(x, SCALED, hour, 1, 1), 2000, 2000);
        gives("by 1000", x, made(x, SCALED, hour, 1, 1000), 2000, 2);
        int[] notDivisors = {0, -1, 1001, MIN, MAX};
        for (int by : notDivisors) {
            refused("by " + by, OUTSIDE, Checks::works, y -> made(y, SCALED, 0, 1, by));
        }
    }

    private static void bandUpsideDown() {
        SluiceRules x = new SluiceRules();
        gives("d is e", x, made(x, BAND, made(x, HOUR), 1, 2, 4, 4), 4, 4);
        refused("d one above e", OUTSIDE, Checks::works, y -> made(y, BAND, 0, 1, 2, 5, 4));
        refused("d far above e", OUTSIDE, Checks::works, y -> made(y, BAND, 0, 1, 2, MAX, MIN));
    }

    private static void allDownward() {
        SluiceRules x = works();
        gives("a is b", x, made(x, ALL, 3, 3), 0, 7);
        refused("a one above b", OUTSIDE, Checks::works, y -> made(y, ALL, 4, 3));
        refused("from the last to the first", OUTSIDE, Checks::works, y -> made(y, ALL, 7, 0));
    }

    private static void makeUnknownAheadOfOutside() {
        refused("scaled", UNKNOWN, Checks::works, x -> made(x, SCALED, 7, 1, 0));
        refused("band", UNKNOWN, Checks::works, x -> made(x, BAND, -2, 1, 2, 5, 4));
        refused("all", UNKNOWN, Checks::works, x -> made(x, ALL, 8, 0));
        refused("all", UNKNOWN, Checks::works, x -> made(x, ALL, 0, -1));
    }

    private static void makeUnknownAheadOfRoom() {
        refused("kind", UNKNOWN, Checks::fullWorks, x -> made(x, 17, 0));
        refused("rule", UNKNOWN, Checks::fullWorks, x -> made(x, COUNTED, 40));
        refused("slot", UNKNOWN, Checks::fullWorks, x -> made(x, SLOT, 8));
    }

    private static void makeOutsideAheadOfRoom() {
        refused("scaled", OUTSIDE, Checks::fullWorks, x -> made(x, SCALED, 0, 1, 1001));
        refused("band", OUTSIDE, Checks::fullWorks, x -> made(x, BAND, 0, 1, 2, 5, 4));
        refused("all", OUTSIDE, Checks::fullWorks, x -> made(x, ALL, 1, 0));
    }

    private static void roomAheadOfHeldsAsking() {
        refused("a counted one", ROOM, Checks::fullWorks, x -> made(x, HELD, 1, 0));
        refused("one that lacks a part", ROOM, Checks::fullWorks, x -> made(x, HELD, 2, 0));
        refused("NONE", ROOM, Checks::fullWorks, x -> made(x, HELD, NONE, 0));
    }

    private static void heldThatMisses() {
        SluiceRules x = works();
        int counter = x.counted(1);
        due("held", made(x, HELD, 2, 0), MISSING);
        due("what was counted stays", x.counted(1), counter + 1);
        due("steps", x.count(3), 3);
        due("rules", x.count(1), 7);
        due("no rule", x.ask(7, 0), UNKNOWN);
        due("next number", made(x, FLAT, 1), 7);
    }

    private static void heldOfNone() {
        SluiceRules x = works();
        due("held", made(x, HELD, NONE, 0), MISSING);
        due("steps", x.count(3), 0);
        due("rules", x.count(1), 7);
        due("next number", made(x, FLAT, 1), 7);
    }

    private static void heldThatIsSpent() {
        SluiceRules x = new SluiceRules();
        int fit = ofSteps(x, 120);
        int tooLong = made(x, LATER, fit, 0);
        int rules = x.count(1);
        due("121 steps", made(x, HELD, tooLong, 0), SPENT);
        due("rules", x.count(1), rules);
        due("steps", x.count(3), 120);
        due("120 steps", made(x, HELD, fit, 0), rules);
        due("steps", x.count(3), 120);
    }

    private static void edgesOfMakesParts() {
        check(5, "RULES, 40 at most, are numbered as they are made", MakeEdges::rulesAreFortyAtMost);
        check(5, "ROOM", MakeEdges::rule41);
        check(5, "Refusals, and nothing changes: its number", MakeEdges::refusedRuleTakesNoNumber);
        check(5, "made of RULES that there are", MakeEdges::partsAreRulesThatThereAre);
        check(5, "or of NONE (that is lacking then)", MakeEdges::everyKindMayLackItsParts);
        check(5, "or of NONE: another part than the first", MakeEdges::secondPartLacks);
        check(5, "lacking then, for ever", MakeEdges::lackingForEver);
        check(5, "What a kind does not name is not looked at.", MakeEdges::unnamedIsNotLookedAt);
    }

    private static void edgesOfMakesRefusals() {
        check(5, "UNKNOWN: kind", MakeEdges::noSuchKind);
        check(5, "UNKNOWN: BASIN", MakeEdges::levelOfNoBasin);
        check(5, "UNKNOWN: RULES (not NONE)", MakeEdges::ofNoRule);
        check(5, "UNKNOWN: for COUNT no COUNTED", MakeEdges::countOfNoCounted);
        check(5, "UNKNOWN: SLOTS", MakeEdges::slotOfNoSlot);
        check(5, "OUTSIDE: c of SCALED (a number 1 .. 1000)", MakeEdges::scaledBy);
        check(5, "OUTSIDE: d above e", MakeEdges::bandUpsideDown);
        check(5, "OUTSIDE: a above b of ALL", MakeEdges::allDownward);
        check(5, "of several the first: UNKNOWN; OUTSIDE", MakeEdges::makeUnknownAheadOfOutside);
        check(5, "of several the first: UNKNOWN; ROOM", MakeEdges::makeUnknownAheadOfRoom);
        check(5, "of several the first: OUTSIDE; ROOM", MakeEdges::makeOutsideAheadOfRoom);
        check(5, "of several the first: ROOM; HELD's asking that FAILS", MakeEdges::roomAheadOfHeldsAsking);
        check(5, "HELD's asking that FAILS: MISSING (no RULE is made)", MakeEdges::heldThatMisses);
        check(5, "HELD's asking that FAILS: MISSING, of NONE", MakeEdges::heldOfNone);
        check(5, "HELD's asking that FAILS: SPENT (no RULE is made)", MakeEdges::heldThatIsSpent);
    }

    public static void main(String[] args) {
        edgesOfMakesParts();
        edgesOfMakesRefusals();
        end();
    }
}
