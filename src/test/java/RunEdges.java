/** The edges of promises 9 to 11: sluices, the works, and what is told of them. */
public final class RunEdges extends Checks {
    // Promise 9: sluice.

    private static void eightSluicesAsTheyCome() {
        SluiceRules x = new SluiceRules();
        x.basin(100);
        x.basin(0);
        int one = made(x, FLAT, 1);
        for (int i = 0; i < 8; i++) {
            due("sluice " + i, x.sluice(0, 1, one), i);
        }
        due("sluices", x.count(2), 8);
        due("run", x.run(0, 1), 1);
        levels(x, 92, 8);
    }

    private static void ninthSluice() {
        refused("ninth", ROOM, Checks::fullWorks, x -> x.sluice(0, 1, 0));
        refused("tenth", ROOM, Checks::fullWorks, x -> {
            x.sluice(0, 1, 0);
            return x.sluice(1, 0, 0);
        });
    }

    private static void sluiceOfNoBasin() {
        int[] notBasins = {NONE, 3, 8, MIN, MAX};
        for (int basin : notBasins) {
            refused("from " + basin, UNKNOWN, Checks::works, x -> x.sluice(basin, 0, 0));
            refused("to " + basin, UNKNOWN, Checks::works, x -> x.sluice(0, basin, 0));
            refused("from and to " + basin, UNKNOWN, Checks::works, x -> x.sluice(basin, basin, 0));
        }
    }

    private static void sluiceOfNoRule() {
        int[] notRules = {NONE, -2, 7, 40, MIN, MAX};
        for (int rule : notRules) {
            refused("rule " + rule, UNKNOWN, Checks::works, x -> x.sluice(0, 1, rule));
        }
    }

    private static void sluiceToItself() {
        refused("basin 0", OUTSIDE, Checks::works, x -> x.sluice(0, 0, 0));
        refused("basin 2", OUTSIDE, Checks::works, x -> x.sluice(2, 2, 2));
    }

    private static void sluiceOfSeveralTheFirst() {
        refused("unknown ahead of outside", UNKNOWN, Checks::works, x -> x.sluice(1, 1, NONE));
        refused("unknown ahead of room", UNKNOWN, Checks::fullWorks, x -> x.sluice(0, 1, 40));
        refused("unknown ahead of room", UNKNOWN, Checks::fullWorks, x -> x.sluice(0, 8, 0));
        refused("outside ahead of room", OUTSIDE, Checks::fullWorks, x -> x.sluice(4, 4, 0));
    }

    // Promise 10: run.

    private static SluiceRules oneSluice(int from, int to, int kind, int... parts) {
        SluiceRules x = new SluiceRules();
        x.basin(from);
        x.basin(to);
        x.sluice(0, 1, made(x, kind, parts));
        return x;
    }

    private static void noHours() {
        SluiceRules x = oneSluice(10, 0, FLAT, 1);
        due("0 hours", x.run(0, 0), 0);
        levels(x, 10, 0);
    }

    private static void hundredHours() {
        SluiceRules x = oneSluice(1000, 0, FLAT, 1);
        due("100 hours", x.run(0, 100), 100);
        levels(x, 900, 100);
    }

    private static void hoursOutside() {
        int[] notHours = {-1, 101, MIN, MAX};
        for (int n : notHours) {
            refused(n + " hours", OUTSIDE, Checks::works, x -> x.run(0, n));
        }
        SluiceRules x = oneSluice(1000, 0, FLAT, 1);
        due("101 hours", x.run(0, 101), OUTSIDE);
        levels(x, 1000, 0);
    }

    private static void hoursFromOneOn() {
        SluiceRules x = oneSluice(1000, 0, HOUR);
        due("one hour", x.run(7, 1), 1);
        levels(x, 993, 7);
        due("three hours", x.run(10, 3), 3);
        levels(x, 960, 40);
    }

    /** 3 go over at an hour below 0, 5 at the largest hour. */
    private static void hoursWrap() {
        SluiceRules x = new SluiceRules();
        x.basin(100);
        x.basin(0);
        x.sluice(0, 1, made(x, BAND, made(x, HOUR), 3, 5, 0, MAX - 1));
        due("largest hour", x.run(MAX, 1), 1);
        levels(x, 95, 5);
        due("largest hour and two more", x.run(MAX, 3), 3);
        levels(x, 84, 16);
    }

    private static void worksWithoutSluices() {
        SluiceRules x = new SluiceRules();
        due("run", x.run(MAX, 100), 100);
        told(x, NONE, 0, 0);
    }

    private static void asMuchAsThereIs() {
        SluiceRules x = oneSluice(5, 0, FLAT, 6);
        due("one more than there is", x.run(0, 1), 1);
        levels(x, 0, 5);
        due("of an empty basin", x.run(0, 1), 1);
        levels(x, 0, 5);
        told(x, NONE, 0, 0);
        x.fill(0, 6);
        due("all that there is", x.run(0, 1), 1);
        levels(x, 0, 11);
        x.fill(0, 7);
        due("one less than there is", x.run(0, 1), 1);
        levels(x, 1, 17);
    }

    private static void noneIfBelowZero() {
        int[] openings = {-1, 0, MIN};
        for (int opening : openings) {
            SluiceRules x = oneSluice(5, 50, FLAT, opening);
            due("run by " + opening, x.run(0, 1), 1);
            levels(x, 5, 50);
            told(x, NONE, 0, 0);
        }
    }

    private static void openingsAreLongs() {
        SluiceRules x = new SluiceRules();
        x.basin(30);
        x.basin(FULL - 10);
        x.sluice(0, 1, leastLong(x));
        due("-2^63", x.run(0, 1), 1);
        levels(x, 30, FULL - 10);
        x.sluice(0, 1, twoTo62(x));
        due("2^62", x.run(0, 1), 1);
        levels(x, 20, FULL);
    }

    private static void asHasRoom() {
        SluiceRules x = oneSluice(FULL, FULL - 5, FLAT, 6);
        due("one more than has room", x.run(0, 1), 1);
        levels(x, FULL - 5, FULL);
        due("into a full basin", x.run(0, 1), 1);
        levels(x, FULL - 5, FULL);
        told(x, NONE, 0, 0);
        x.fill(1, FULL - 6);
        due("all that has room", x.run(0, 1), 1);
        levels(x, FULL - 11, FULL);
        SluiceRules y = oneSluice(FULL, 0, FLAT, MAX);
        due("from the fullest to the emptiest", y.run(0, 1), 1);
        levels(y, 0, FULL);
        SluiceRules z = oneSluice(FULL, FULL, FLAT, MAX);
        due("both are full", z.run(0, 1), 1);
        levels(z, FULL, FULL);
    }

    private static void sluicesInTheirOrder() {
        SluiceRules x = new SluiceRules();
        x.basin(4);
        x.basin(0);
        x.basin(0);
        x.sluice(0, 1, made(x, FLAT, 10));
        x.sluice(1, 2, made(x, LEVEL, 1));
        due("run", x.run(0, 1), 1);
        levels(x, 0, 0, 4);
    }

    private static void stepsFromZeroForEachSluice() {
        SluiceRules x = new SluiceRules();
        x.basin(9);
        x.basin(0);
        int rule = ofSteps(x, 120);
        x.sluice(0, 1, rule);
        x.sluice(1, 0, rule);
        due("run", x.run(0, 100), 100);
        due("steps", x.count(3), 120);
        x.sluice(0, 1, made(x, LATER, rule, 0));
        due("run by 121 steps", x.run(0, 1), 0);
        told(x, 2, SPENT, 9);
    }

    /** Sluice 1 lacks its part from hour 3 on. */
    private static SluiceRules failingFromHour3() {
        SluiceRules x = new SluiceRules();
        x.basin(100);
        x.basin(0);
        int hour = made(x, HOUR);
        int counter = made(x, COUNTED, hour);
        int when = made(x, WHEN, made(x, LATER, hour, -2), NONE, counter);
        x.sluice(0, 1, counter);
        x.sluice(1, 0, when);
        x.sluice(0, 1, counter);
        return x;
    }

    private static void failingEndsTheWorks() {
        SluiceRules x = failingFromHour3();
        due("hours 1 and 2 are whole", x.run(1, 50), 2);
        due("counted", x.counted(1), 3 + 3 + 1);
        due("steps of the one that failed", x.count(3), 3);
        due("fails in the first hour", x.run(3, 100), 0);
        due("fails in the last hour", x.run(2, 2), 1);
        due("does not come to it", x.run(1, 2), 2);
    }

    private static void whatWentOverStays() {
        SluiceRules x = failingFromHour3();
        due("run", x.run(3, 1), 0);
        levels(x, 97, 3);
        due("run", x.run(2, 3), 1);
        levels(x, 97 - 2 - 3, 3 + 2 + 3);
    }

    // Promise 11: told.

    private static void toldWithoutARun() {
        told(new SluiceRules(), NONE, 0, 0);
    }

    private static void toldOfAFailure() {
        SluiceRules x = failingFromHour3();
        x.run(1, 5);
        told(x, 1, MISSING, 3);
        x.sluice(0, 1, endless(x, 0));
        x.run(0, 5);
        told(x, 3, SPENT, 0);
        x.run(2, 1);
        told(x, 3, SPENT, 2);
    }

    private static void toldOfAWholeRun() {
        SluiceRules x = failingFromHour3();
        x.run(3, 1);
        x.run(1, 2);
        told(x, NONE, 0, 2);
    }

    private static void toldOfNoHours() {
        SluiceRules x = failingFromHour3();
        x.run(1, 5);
        x.run(1, 0);
        told(x, NONE, 0, 0);
    }

    private static void toldWhenTheFirstFails() {
        SluiceRules x = new SluiceRules();
        x.basin(9);
        x.basin(0);
        int four = made(x, FLAT, 4);
        x.sluice(0, 1, made(x, WHEN, made(x, HOUR), NONE, four));
        x.sluice(1, 0, four);
        x.run(1, 2);
        told(x, 0, MISSING, 0);
        x.run(0, 2);
        told(x, 0, MISSING, 4);
    }

    private static void toldOfWhatWentOver() {
        SluiceRules x = oneSluice(5, FULL - 3, FLAT, MAX);
        x.run(0, 1);
        told(x, NONE, 0, 3);
        x.run(0, 1);
        told(x, NONE, 0, 0);
    }

    private static void toldAfterARefusal() {
        SluiceRules x = failingFromHour3();
        x.run(1, 5);
        due("refused", x.run(0, 101), OUTSIDE);
        told(x, 1, MISSING, 3);
        due("refused", x.run(0, -1), OUTSIDE);
        told(x, 1, MISSING, 3);
    }

    private static void toldAfterOtherCalls() {
        SluiceRules x = failingFromHour3();
        x.run(1, 5);
        x.ask(0, 0);
        x.ask(endless(x, 0), 0);
        made(x, HELD, 0, 0);
        told(x, 1, MISSING, 3);
    }

    private static void toldOfNoSuchWhat() {
        int[] notWhats = {-1, 3, 8, MIN, MAX};
        for (int what : notWhats) {
            refused("what " + what, UNKNOWN, Checks::works, x -> x.told(what));
        }
    }

    private static void edgesOfSluice() {
        check(9, "SLUICES 0 .. 7, as they come", RunEdges::eightSluicesAsTheyCome);
        check(9, "ROOM", RunEdges::ninthSluice);
        check(9, "UNKNOWN (no such BASIN)", RunEdges::sluiceOfNoBasin);
        check(9, "UNKNOWN (no such RULE)", RunEdges::sluiceOfNoRule);
        check(9, "OUTSIDE: both are one BASIN", RunEdges::sluiceToItself);
        check(9, "of several the first: UNKNOWN; OUTSIDE; ROOM", RunEdges::sluiceOfSeveralTheFirst);
    }

    private static void edgesOfRun() {
        check(10, "n HOURS (0 .. 100): none", RunEdges::noHours);
        check(10, "n HOURS (0 .. 100): the most", RunEdges::hundredHours);
        check(10, "OUTSIDE", RunEdges::hoursOutside);
        check(10, "from one on", RunEdges::hoursFromOneOn);
        check(10, "HOUR (an int; sums with it wrap)", RunEdges::hoursWrap);
        check(10, "for each SLUICE: without any", RunEdges::worksWithoutSluices);
        check(10, "so much as there is in the first BASIN", RunEdges::asMuchAsThereIs);
        check(10, "none, if it is below 0", RunEdges::noneIfBelowZero);
        check(10, "of what it gives, a long", RunEdges::openingsAreLongs);
        check(10, "as has room in the second one (up to 1000000000)", RunEdges::asHasRoom);
        check(10, "for each SLUICE, in their order", RunEdges::sluicesInTheirOrder);
        check(10, "STEPS from 0 on", RunEdges::stepsFromZeroForEachSluice);
        check(10, "One that FAILS ends the HOUR there, and the works", RunEdges::failingEndsTheWorks);
        check(10, "what went over stays", RunEdges::whatWentOverStays);
    }

    private static void edgesOfTold() {
        check(11, "(NONE), 0, 0 without a run()", RunEdges::toldWithoutARun);
        check(11, "0 which SLUICE FAILED, 1 by what (MISSING, SPENT)", RunEdges::toldOfAFailure);
        check(11, "0 which SLUICE FAILED (NONE), 1 by what (0)", RunEdges::toldOfAWholeRun);
        check(11, "Of the latest run(): of 0 HOURS", RunEdges::toldOfNoHours);
        check(11, "2 the last SLUICE that was asked and did not FAIL (0 without)", RunEdges::toldWhenTheFirstFails);
        check(11, "2 how much went over", RunEdges::toldOfWhatWentOver);
        check(11, "Of the latest run() that was not refused", RunEdges::toldAfterARefusal);
        check(11, "Of the latest run(): not of another asking", RunEdges::toldAfterOtherCalls);
        check(11, "UNKNOWN", RunEdges::toldOfNoSuchWhat);
    }

    public static void main(String[] args) {
        edgesOfSluice();
        edgesOfRun();
        edgesOfTold();
        end();
    }
}
