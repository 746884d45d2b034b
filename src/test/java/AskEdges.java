/** The edges of promises 6 to 8, 13 and 14: slots, askings, and what is read of them. */
public final class AskEdges extends Checks {
    // Promise 6: put.

    private static void firstAndLastSlot() {
        SluiceRules x = works();
        due("slot 0", x.put(0, 6), NONE);
        due("slot 7", x.put(7, 0), NONE);
        due("slot 0 has", x.count(8), 6);
        due("slot 7 has", x.count(15), 0);
        due("slot 0, what it had", x.put(0, 1), 6);
    }

    private static void slotHasNoneAgain() {
        SluiceRules x = works();
        due("to NONE", x.put(3, NONE), 1);
        due("and again", x.put(3, NONE), NONE);
        due("its rule lacks", x.ask(6, 0), MISSING);
        due("count", x.count(11), NONE);
    }

    private static void putInNoSlot() {
        int[] notSlots = {-1, 8, MIN, MAX};
        for (int slot : notSlots) {
            refused("slot " + slot, UNKNOWN, Checks::works, x -> x.put(slot, 0));
            refused("NONE in slot " + slot, UNKNOWN, Checks::works, x -> x.put(slot, NONE));
        }
    }

    private static void putOfNoRule() {
        int[] notRules = {-2, 7, 39, 40, MIN, MAX};
        for (int rule : notRules) {
            refused("rule " + rule, UNKNOWN, Checks::works, x -> x.put(3, rule));
        }
    }

    // Promise 7: ask.

    private static void askOfNoRule() {
        int[] notRules = {NONE, -2, 7, 39, 40, MIN, MAX};
        for (int rule : notRules) {
            refused("rule " + rule, UNKNOWN, Checks::works, x -> x.ask(rule, 0));
        }
        refused("rule 40 of 40", UNKNOWN, Checks::fullWorks, x -> x.ask(40, 0));
    }

    private static void askedByACallOrByARule() {
        SluiceRules x = new SluiceRules();
        int flat = made(x, FLAT, 1);
        due("by a call", x.ask(flat, 0), 1);
        due("steps", x.count(3), 1);
        due("twice by a rule", x.ask(made(x, SUM, flat, flat), 0), 1);
        due("steps", x.count(3), 3);
    }

    private static void noneIsNoStep() {
        SluiceRules x = new SluiceRules();
        due("lacking", x.ask(made(x, SUM, NONE, NONE), 0), MISSING);
        due("steps", x.count(3), 1);
    }

    private static void the120thStep() {
        SluiceRules x = new SluiceRules();
        int rule = ofSteps(x, 120);
        due("120 steps", x.ask(rule, 0), 1);
        due("steps", x.count(3), 120);
        due("121 steps", x.ask(made(x, LATER, rule, 0), 0), SPENT);
        due("steps", x.count(3), 120);
    }

    private static void the121stIsNotAsked() {
        SluiceRules x = new SluiceRules();
        int counter = made(x, COUNTED, made(x, FLAT, 1));
        int long118 = ofSteps(x, 118);
        int long119 = made(x, LATER, long118, 0);
        due("counted is the 120th", x.ask(made(x, SUM, long118, counter), 0), SPENT);
        due("it counted", x.counted(counter), 1);
        due("counted is the 121st", x.ask(made(x, SUM, long119, counter), 0), SPENT);
        due("it did not count", x.counted(counter), 1);
    }

    private static void noneAfter120Steps() {
        SluiceRules x = new SluiceRules();
        int long118 = ofSteps(x, 118);
        due("after 119", x.ask(made(x, SUM, long118, NONE), 0), MISSING);
        due("steps", x.count(3), 119);
        due("after 120", x.ask(made(x, SUM, made(x, LATER, long118, 0), NONE), 0), MISSING);
        due("steps", x.count(3), 120);
    }

    private static void failsAtOnce() {
        SluiceRules x = new SluiceRules();
        int counter = made(x, COUNTED, made(x, FLAT, 1));
        int lacking = made(x, LATER, NONE, 0);
        for (int kind = SUM; kind <= MOST; kind++) {
            due("kind " + kind, x.ask(made(x, kind, lacking, counter), 0), MISSING);
            due("steps", x.count(3), 2);
        }
        due("when", x.ask(made(x, WHEN, lacking, counter, counter), 0), MISSING);
        due("nothing behind it was asked", x.counted(counter), 0);
        due("missing is not spent then", x.ask(made(x, SUM, lacking, endless(x, 0)), 0), MISSING);
        due("spent is not missing then", x.ask(made(x, SUM, x.count(8), lacking), 0), SPENT);
    }

    private static void whatWasCountedStays() {
        SluiceRules x = new SluiceRules();
        int counter = made(x, COUNTED, made(x, FLAT, 1));
        due("missing", x.ask(made(x, SUM, counter, NONE), 0), MISSING);
        due("counter", x.counted(counter), 1);
        due("spent", x.ask(made(x, SUM, counter, endless(x, 0)), 0), SPENT);
        due("counter", x.counted(counter), 2);
    }

    private static void endlessAskingIsSpent() {
        SluiceRules x = new SluiceRules();
        int counter = made(x, COUNTED, made(x, SLOT, 1));
        x.put(1, counter);
        due("by one slot", x.ask(counter, 0), SPENT);
        due("every second step counted", x.counted(counter), 60);
        int all = made(x, ALL, 0, 7);
        for (int slot = 0; slot < 8; slot++) {
            x.put(slot, all);
        }
        due("by all slots", x.ask(all, 0), SPENT);
        due("steps", x.count(3), 120);
    }

    private static void askAfterAFailure() {
        SluiceRules x = new SluiceRules();
        int flat = made(x, FLAT, 4);
        due("spent", x.ask(endless(x, 0), 0), SPENT);
        gives("then", x, flat, 0, 4);
        due("steps", x.count(3), 1);
        due("missing", x.ask(made(x, COUNTED, NONE), 0), MISSING);
        gives("then", x, flat, 0, 4);
    }

    // Promise 8: given.

    private static void givenWithout() {
        SluiceRules x = new SluiceRules();
        due("new", x.given(), 0);
        made(x, FLAT, 3);
        due("refused", x.ask(1, 0), UNKNOWN);
        due("after one refused", x.given(), 0);
        due("failed", x.ask(made(x, SUM, 0, NONE), 0), MISSING);
        due("after one that failed", x.given(), 0);
        due("held", made(x, HELD, 0, 0), 2);
        due("after held", x.given(), 0);
    }

    private static void givenByTheLatestThatAnswered1() {
        SluiceRules x = works();
        int hour = made(x, HOUR);
        due("ask", x.ask(hour, MIN), 1);
        due("missing", x.ask(2, 0), MISSING);
        due("given after missing", x.given(), MIN);
        due("spent", x.ask(endless(x, 0), 0), SPENT);
        due("given after spent", x.given(), MIN);
        due("unknown", x.ask(NONE, 0), UNKNOWN);
        due("given after unknown", x.given(), MIN);
        made(x, HELD, hour, 9);
        due("given after held", x.given(), MIN);
        x.run(3, 2);
        due("given after run", x.given(), MIN);
        due("ask of 0", x.ask(hour, 0), 1);
        due("given of 0", x.given(), 0);
    }

    // Promise 13: counted.

    private static void countedUnknown() {
        int[] notCounted = {NONE, -2, 0, 2, 3, 4, 5, 6, 7, 40, MIN, MAX};
        for (int rule : notCounted) {
            refused("rule " + rule, UNKNOWN, Checks::works, x -> x.counted(rule));
        }
        SluiceRules x = works();
        due("count of it", x.counted(made(x, COUNT, 1)), UNKNOWN);
    }

    private static void counterAtFirst() {
        SluiceRules x = works();
        int counter = made(x, COUNTED, 1);
        due("new", x.counted(counter), 0);
        x.ask(counter, 0);
        due("asked", x.counted(counter), 1);
        due("reading does not count", x.counted(counter), 1);
    }

    // Promise 14: count.

    private static void countAtTheBounds() {
        SluiceRules x = fullWorks();
        due("basins", x.count(0), 8);
        due("rules", x.count(1), 40);
        due("sluices", x.count(2), 8);
        x.put(0, 39);
        due("slot 0", x.count(8), 39);
        due("slot 7", x.count(15), NONE);
        x.put(7, 0);
        due("slot 7", x.count(15), 0);
    }

    private static void countOfNoSuchWhat() {
        int[] notWhats = {-1, 4, 5, 6, 7, 16, MIN, MIN + 7, MIN + 8, MAX};
        for (int what : notWhats) {
            refused("what " + what, UNKNOWN, Checks::works, x -> x.count(what));
        }
    }

    private static void stepsOfTheLatestAsking() {
        SluiceRules x = works();
        due("at first", new SluiceRules().count(3), 0);
        x.ask(0, 0);
        due("ask", x.count(3), 1);
        made(x, HELD, 1, 0);
        due("held", x.count(3), 2);
        x.run(0, 1);
        due("the sluice that failed", x.count(3), 3);
        x.ask(NONE, 0);
        x.run(0, 101);
        made(x, HELD, 40, 0);
        due("after refusals", x.count(3), 3);
        x.run(0, 0);
        due("after a run that asked nothing", x.count(3), 3);
    }

    private static void edgesOfPut() {
        check(6, "SLOTS 0 .. 7: what it had", AskEdges::firstAndLastSlot);
        check(6, "A SLOT has a RULE, or NONE", AskEdges::slotHasNoneAgain);
        check(6, "UNKNOWN (no such SLOT)", AskEdges::putInNoSlot);
        check(6, "UNKNOWN (no such RULE)", AskEdges::putOfNoRule);
    }

    private static void edgesOfAsk() {
        check(7, "UNKNOWN", AskEdges::askOfNoRule);
        check(7, "A RULE that is ASKED, by a call or by a RULE, is a STEP", AskEdges::askedByACallOrByARule);
        check(7, "NONE that would be asked is none", AskEdges::noneIsNoStep);
        check(7, "SPENT: it would be the 121st STEP", AskEdges::the120thStep);
        check(7, "SPENT: the 121st is not asked", AskEdges::the121stIsNotAsked);
        check(7, "MISSING: NONE would be asked, which is no STEP", AskEdges::noneAfter120Steps);
        check(7, "An asking by a call FAILS at once", AskEdges::failsAtOnce);
        check(7, "what COUNTERS counted stays", AskEdges::whatWasCountedStays);
        check(7, "SPENT: a RULE that asks itself", AskEdges::endlessAskingIsSpent);
        check(7, "1; MISSING, SPENT: the next asking is another one", AskEdges::askAfterAFailure);
    }

    private static void edgesOfGiven() {
        check(8, "0 without", AskEdges::givenWithout);
        check(8, "What the latest ask() that answered 1 gave", AskEdges::givenByTheLatestThatAnswered1);
    }

    private static void edgesOfCounted() {
        check(13, "UNKNOWN: another RULE", AskEdges::countedUnknown);
        check(13, "The COUNTER of a COUNTED (0 at first)", AskEdges::counterAtFirst);
    }

    private static void edgesOfCount() {
        check(14, "0 BASINS, 1 RULES, 2 SLUICES, 8 + s the RULE of SLOT s (NONE)", AskEdges::countAtTheBounds);
        check(14, "UNKNOWN", AskEdges::countOfNoSuchWhat);
        check(14, "3 STEPS of the latest asking by a call (ask(), run(), HELD)", AskEdges::stepsOfTheLatestAsking);
    }

    public static void main(String[] args) {
        edgesOfPut();
        edgesOfAsk();
        edgesOfGiven();
        edgesOfCounted();
        edgesOfCount();
        end();
    }
}
