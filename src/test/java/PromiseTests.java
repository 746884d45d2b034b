/** Each promise with ordinary inputs; what the document names as an edge stands in the tests of the edges. */
public final class PromiseTests extends Checks {
    /** Two basins (70 and 5), rules FLAT 7, COUNTED of it, SUM of that and NONE; one ask, one run done. */
    private static SluiceRules smallWorks() {
        SluiceRules x = new SluiceRules();
        x.basin(70);
        x.basin(5);
        made(x, FLAT, 7);
        made(x, COUNTED, 0);
        made(x, SUM, 1, NONE);
        x.put(3, 1);
        x.sluice(0, 1, 1);
        x.sluice(1, 0, 2);
        x.ask(1, 0);
        x.run(0, 1);
        return x;
    }

    private static void steps(String what, SluiceRules x, int want) {
        due("steps of " + what, x.count(3), want);
    }

    private static void newObject() {
        SluiceRules x = new SluiceRules();
        for (int what = 0; what < 4; what++) {
            due("count " + what, x.count(what), 0);
        }
        due("first basin", x.basin(3), 0);
        due("first rule", made(x, FLAT, 3), 0);
        smallWorks();
        due("basins beside another object", x.count(0), 1);
    }

    private static void basin() {
        SluiceRules x = new SluiceRules();
        for (int i = 0; i < 5; i++) {
            due("basin " + i, x.basin(9 - i), i);
            due("basins", x.count(0), i + 1);
        }
        levels(x, 9, 8, 7, 6, 5);
    }

    private static void fill() {
        SluiceRules x = smallWorks();
        due("fill", x.fill(1, 44), 12);
        due("fill again", x.fill(1, 45), 44);
        levels(x, 63, 45);
    }

    private static void moon() {
        SluiceRules x = new SluiceRules();
        int tide = made(x, TIDE);
        due("first", x.moon(5), 1);
        gives("tide by moon 5", x, tide, 1, 5);
        gives("tide by moon 5, hour 2", x, tide, 2, 2);
        due("second", x.moon(2), 5);
        gives("tide by moon 2", x, tide, 2, 4);
        due("third", x.moon(7), 2);
    }

    private static void plainKinds() {
        SluiceRules x = new SluiceRules();
        x.basin(40);
        due("flat", made(x, FLAT, -12), 0);
        due("level", made(x, LEVEL, 0), 1);
        due("tide", made(x, TIDE), 2);
        due("hour", made(x, HOUR), 3);
        gives("flat", x, 0, 9, -12);
        gives("level", x, 1, 9, 40);
        x.fill(0, 41);
        gives("level as it is then", x, 1, 9, 41);
        gives("hour", x, 3, -9, -9);
        steps("one rule", x, 1);
    }

    private static void tides() {
        SluiceRules x = new SluiceRules();
        int tide = made(x, TIDE);
        int[] tides = {0, 1, 2, 3, 4, 5, 6, 5, 4, 3, 2, 1};
        for (int hour = -24; hour < 24; hour++) {
            gives("tide at " + hour, x, tide, hour, tides[(hour + 24) % 12]);
        }
        for (int moon = 0; moon < 12; moon++) {
            x.moon(moon);
            gives("tide by moon " + moon, x, tide, 25, tides[moon]);
            gives("tide of the largest hour", x, tide, MAX, tides[(int) ((long) moon * MAX % 12)]);
            gives("tide of the least hour", x, tide, MIN, tides[(int) ((long) moon * MIN % 12 + 12) % 12]);
        }
    }

    private static void joiningKinds() {
        SluiceRules x = new SluiceRules();
        made(x, FLAT, 9);
        made(x, HOUR);
        int sum = made(x, SUM, 0, 1);
        int less = made(x, LESS, 0, 1);
        int least = made(x, LEAST, 0, 1);
        int most = made(x, MOST, 0, 1);
        gives("sum", x, sum, -20, -11);
        gives("less", x, less, -20, 29);
        gives("less, below 0", x, less, 10, -1);
        gives("least", x, least, -20, -20);
        gives("least, other one", x, least, 20, 9);
        gives("most", x, most, -20, 9);
        gives("most, other one", x, most, 20, 20);
        steps("most", x, 3);
        gives("sum of joined ones", x, made(x, SUM, less, most), 5, 4 + 9);
        steps("sum of joined ones", x, 7);
    }

    private static void choosingKinds() {
        SluiceRules x = new SluiceRules();
        int hour = made(x, HOUR);
        gives("scaled", x, made(x, SCALED, hour, 3, 4), 10, 7);
        gives("scaled, below 0", x, made(x, SCALED, hour, 3, 4), -10, -8);
        int counter = made(x, COUNTED, hour);
        int flat = made(x, FLAT, 100);
        int when = made(x, WHEN, hour, counter, flat);
        gives("when above 0", x, when, 5, 5);
        steps("when above 0", x, 4);
        gives("when not above 0", x, when, -5, 100);
        steps("when not above 0", x, 3);
        int later = made(x, LATER, hour, 30);
        gives("later", x, later, 5, 35);
        gives("later of later", x, made(x, LATER, later, -4), 5, 31);
        gives("hour beside later is its own", x, made(x, LESS, later, hour), 5, 30);
        int band = made(x, BAND, hour, 50, -50, -3, 8);
        gives("band, within", x, band, 2, 2);
        gives("band, below", x, band, -40, 50);
        gives("band, above", x, band, 40, -50);
    }

    private static void heldKind() {
        SluiceRules x = new SluiceRules();
        x.basin(8);
        int counter = made(x, COUNTED, made(x, SUM, made(x, LEVEL, 0), made(x, HOUR)));
        int held = made(x, HELD, counter, -3);
        steps("held as it is made", x, 4);
        due("counted by held", x.counted(counter), 1);
        x.fill(0, 1000);
        gives("held", x, held, 77, 5);
        steps("held", x, 1);
        due("held asks no more", x.counted(counter), 1);
        due("held of held", made(x, HELD, held, 0), held + 1);
        gives("held of held", x, held + 1, 0, 5);
        gives("held later", x, made(x, HELD, counter, 6), 0, 1006);
    }

    private static void countingKinds() {
        SluiceRules x = new SluiceRules();
        int hour = made(x, HOUR);
        int first = made(x, COUNTED, hour);
        int second = made(x, COUNTED, first);
        int read = made(x, COUNT, first);
        gives("counted", x, first, 4, 4);
        gives("counted of counted", x, second, 5, 5);
        steps("counted of counted", x, 3);
        gives("count as it is then", x, read, 0, 2);
        steps("count", x, 1);
        due("second", x.counted(second), 1);
        gives("asked twice", x, made(x, SUM, first, first), 3, 6);
        due("counts twice", x.counted(first), 4);
        gives("a counter's reader that is counted", x, made(x, COUNTED, read), 0, 4);
    }

    private static void slotKinds() {
        SluiceRules x = new SluiceRules();
        int hour = made(x, HOUR);
        int counter = made(x, COUNTED, hour);
        int read = made(x, COUNT, counter);
        int slot = made(x, SLOT, 4);
        int all = made(x, ALL, 4, 6);
        x.put(4, hour);
        gives("slot", x, slot, 6, 6);
        steps("slot", x, 2);
        x.put(4, counter);
        gives("slot, changed", x, slot, 6, 6);
        due("asks what it has then", x.counted(counter), 1);
        x.put(5, read);
        x.put(6, read);
        gives("all, in order", x, all, 10, 10 + 2 + 2);
        steps("all", x, 5);
        x.put(4, read);
        x.put(6, counter);
        gives("all, the other order", x, all, 10, 2 + 2 + 10);
    }

    private static void put() {
        SluiceRules x = smallWorks();
        due("slot 5", x.put(5, 2), NONE);
        due("slot 5 again", x.put(5, 0), 2);
        due("count of slot 5", x.count(13), 0);
        due("slot 3", x.put(3, NONE), 1);
        due("count of slot 3", x.count(11), NONE);
    }

    private static void ask() {
        SluiceRules x = smallWorks();
        int before = x.counted(1);
        gives("counted", x, 1, 0, 7);
        due("missing", x.ask(2, 0), MISSING);
        steps("missing", x, 3);
        due("counted stays", x.counted(1), before + 2);
        due("spent", x.ask(endless(x, 0), 0), SPENT);
        steps("spent", x, 120);
        gives("a new asking starts from 0", x, 0, 0, 7);
        steps("a new asking", x, 1);
    }

    private static void given() {
        SluiceRules x = smallWorks();
        due("by ask, not by run", x.given(), 7);
        x.ask(made(x, HOUR), -9);
        due("latest", x.given(), -9);
        due("again", x.given(), -9);
        x.ask(2, 0);
        due("not of one that failed", x.given(), -9);
    }

    private static void sluice() {
        SluiceRules x = smallWorks();
        x.basin(0);
        due("there", x.sluice(0, 2, 0), 2);
        due("and back", x.sluice(2, 0, 0), 3);
        due("the same again", x.sluice(2, 0, 0), 4);
        due("sluices", x.count(2), 5);
    }

    private static void run() {
        SluiceRules x = new SluiceRules();
        x.basin(100);
        x.basin(0);
        x.basin(FULL - 4);
        x.sluice(0, 1, made(x, HOUR));
        x.sluice(1, 2, made(x, LEVEL, 1));
        due("one hour", x.run(3, 1), 1);
        levels(x, 97, 0, FULL - 1);
        due("hours go on, one by one", x.run(4, 3), 3);
        levels(x, 97 - 15, 14, FULL);
        due("below 0 nothing goes", x.run(-5, 5), 5);
        levels(x, 82, 14, FULL);
        due("no more than there is", x.run(80, 2), 2);
        levels(x, 0, 96, FULL);
        x.fill(0, FULL);
        x.fill(1, 0);
        due("100 hours", x.run(1, 100), 100);
        levels(x, FULL - 5050, 5050, FULL);
    }

    private static void runThatFails() {
        SluiceRules x = smallWorks();
        int before = x.counted(1);
        due("no whole hour", x.run(0, 5), 0);
        levels(x, 56, 19);
        due("counted by both", x.counted(1), before + 2);
        steps("the one that failed", x, 3);
    }

    private static void told() {
        SluiceRules x = smallWorks();
        told(x, 1, MISSING, 7);
        SluiceRules y = new SluiceRules();
        y.basin(9);
        y.basin(0);
        y.sluice(0, 1, made(y, FLAT, 4));
        y.run(0, 1);
        told(y, NONE, 0, 4);
        y.run(0, 2);
        told(y, NONE, 0, 1);
    }

    private static void level() {
        levels(smallWorks(), 63, 12);
    }

    private static void counted() {
        SluiceRules x = smallWorks();
        due("by ask, run and a rule", x.counted(1), 3);
        due("again", x.counted(1), 3);
        int other = made(x, COUNTED, 1);
        x.ask(other, 0);
        due("other", x.counted(other), 1);
        due("and the one within", x.counted(1), 4);
    }

    private static void count() {
        SluiceRules x = smallWorks();
        due("basins", x.count(0), 2);
        due("rules", x.count(1), 3);
        due("sluices", x.count(2), 2);
        due("steps", x.count(3), 3);
        for (int slot = 0; slot < 8; slot++) {
            due("slot " + slot, x.count(8 + slot), slot == 3 ? 1 : NONE);
        }
    }

    public static void main(String[] args) {
        check(1, "a new object", PromiseTests::newObject);
        check(2, "basin", PromiseTests::basin);
        check(3, "fill", PromiseTests::fill);
        check(4, "moon", PromiseTests::moon);
        check(5, "make, plain kinds", PromiseTests::plainKinds);
        check(5, "make, tides", PromiseTests::tides);
        check(5, "make, joining kinds", PromiseTests::joiningKinds);
        check(5, "make, choosing kinds", PromiseTests::choosingKinds);
        check(5, "make, held", PromiseTests::heldKind);
        check(5, "make, counting kinds", PromiseTests::countingKinds);
        check(5, "make, slot kinds", PromiseTests::slotKinds);
        check(6, "put", PromiseTests::put);
        check(7, "ask", PromiseTests::ask);
        check(8, "given", PromiseTests::given);
        check(9, "sluice", PromiseTests::sluice);
        check(10, "run", PromiseTests::run);
        check(10, "run, failing", PromiseTests::runThatFails);
        check(11, "told", PromiseTests::told);
        check(12, "level", PromiseTests::level);
        check(13, "counted", PromiseTests::counted);
        check(14, "count", PromiseTests::count);
        end();
    }
}
