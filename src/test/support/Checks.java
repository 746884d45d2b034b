import java.util.function.Supplier;
import java.util.function.ToIntFunction;

/**
 * What the tests of the promises have in common. Each check names its promise and the words of the document that
 * it stands for. No object in them has more than the 512 calls that the document speaks of.
 */
public abstract class Checks {
    protected static final int NONE = -1, UNKNOWN = -101, OUTSIDE = -102, ROOM = -103, MISSING = -201, SPENT = -202;
    protected static final int FLAT = 0, LEVEL = 1, TIDE = 2, HOUR = 3, SUM = 4, LESS = 5, LEAST = 6, MOST = 7,
            SCALED = 8, WHEN = 9, LATER = 10, BAND = 11, HELD = 12, COUNTED = 13, COUNT = 14, SLOT = 15, ALL = 16;
    protected static final int MIN = Integer.MIN_VALUE, MAX = Integer.MAX_VALUE, FULL = 1000000000;
    /** Stands where a kind does not look. */
    protected static final int UNREAD = -77;
    protected static final long TWO_TO_62 = 1L << 62;

    private static int wrong = 0;
    private static int checks = 0;
    private static String part = "";

    protected static void check(int promise, String words, Runnable test) {
        checks++;
        part = "promise " + promise + ", \"" + words + "\"";
        try {
            test.run();
        } catch (RuntimeException | StackOverflowError thrown) {
            wrong++;
            System.out.println(part + ": a call threw " + thrown);
        }
    }

    protected static void due(String what, long got, long want) {
        if (got != want) {
            wrong++;
            System.out.println(part + ": " + what + " answered " + got + ", due is " + want);
        }
    }

    protected static int made(SluiceRules x, int kind, int... parts) {
        int[] p = {UNREAD, UNREAD, UNREAD, UNREAD, UNREAD};
        System.arraycopy(parts, 0, p, 0, parts.length);
        return x.make(kind, p[0], p[1], p[2], p[3], p[4]);
    }

    protected static void gives(String what, SluiceRules x, int rule, int hour, long want) {
        due("ask of " + what, x.ask(rule, hour), 1);
        due("given of " + what, x.given(), want);
    }

    protected static void levels(SluiceRules x, int... levels) {
        for (int i = 0; i < levels.length; i++) {
            due("level " + i, x.level(i), levels[i]);
        }
    }

    protected static void told(SluiceRules x, int failed, int byWhat, int wentOver) {
        due("told 0", x.told(0), failed);
        due("told 1", x.told(1), byWhat);
        due("told 2", x.told(2), wentOver);
    }

    /** A rule whose asking takes exactly so many steps. */
    protected static int ofSteps(SluiceRules x, int steps) {
        if (steps == 1) {
            return made(x, FLAT, 1);
        }
        if (steps % 2 == 0) {
            return made(x, LATER, ofSteps(x, steps - 1), 0);
        }
        int half = ofSteps(x, steps / 2);
        return made(x, SUM, half, half);
    }

    /** A rule that asks itself without an end, by this slot. */
    protected static int endless(SluiceRules x, int slot) {
        int rule = made(x, SLOT, slot);
        x.put(slot, rule);
        return rule;
    }

    protected static int twoTo62(SluiceRules x) {
        return made(x, SCALED, made(x, FLAT, MIN), MIN, 1);
    }

    protected static int leastLong(SluiceRules x) {
        return made(x, SCALED, twoTo62(x), 2, 1);
    }

    /** Three basins, seven rules (COUNTED is 1), two sluices, of which the second one lacks a part; asked and run. */
    protected static SluiceRules works() {
        SluiceRules x = new SluiceRules();
        x.basin(70);
        x.basin(5);
        x.basin(FULL);
        x.moon(5);
        made(x, FLAT, 7);
        made(x, COUNTED, 0);
        made(x, SUM, 1, NONE);
        made(x, TIDE);
        made(x, LEVEL, 0);
        made(x, HELD, 4, 0);
        made(x, SLOT, 3);
        x.put(3, 1);
        x.sluice(0, 1, 1);
        x.sluice(1, 0, 2);
        x.ask(1, 0);
        x.run(0, 1);
        return x;
    }

    /** As works(), with 8 basins, 40 rules and 8 sluices. */
    protected static SluiceRules fullWorks() {
        SluiceRules x = works();
        for (int i = 3; i < 8; i++) {
            x.basin(i);
        }
        for (int i = 7; i < 40; i++) {
            made(x, FLAT, i);
        }
        for (int i = 2; i < 8; i++) {
            x.sluice(i - 1, i, 0);
        }
        return x;
    }

    /** All that can be read, what askings and the works answer, and then calls that make something new. */
    protected static String answersOf(SluiceRules x) {
        StringBuilder text = new StringBuilder();
        read(x, text);
        askAndRun(x, text);
        text.append(" | ").append(x.basin(9)).append(' ').append(x.moon(3)).append(' ').append(made(x, HOUR));
        text.append(' ').append(x.sluice(0, 1, 3)).append(' ').append(x.sluice(1, 2, 0));
        askAndRun(x, text);
        return text.toString();
    }

    private static void askAndRun(SluiceRules x, StringBuilder text) {
        text.append(" | ");
        for (int rule = 0; rule < 9; rule++) {
            text.append(' ').append(x.ask(rule, 2)).append(' ').append(x.given());
        }
        text.append(' ').append(x.ask(x.count(1) - 1, 2)).append(' ').append(x.given());
        text.append(' ').append(x.run(1, 2)).append(" | ");
        read(x, text);
    }

    private static void read(SluiceRules x, StringBuilder text) {
        text.append(x.given());
        for (int i = 0; i < 16; i++) {
            text.append(' ').append(x.count(i));
        }
        for (int i = 0; i < 9; i++) {
            text.append(' ').append(x.level(i)).append(' ').append(x.counted(i)).append(' ').append(x.told(i));
        }
    }

    /** The call is refused with this answer, and afterwards the object answers like one that never had the call. */
    protected static void refused(String what, int want, Supplier<SluiceRules> maker, ToIntFunction<SluiceRules> call) {
        SluiceRules x = maker.get();
        due(what, call.applyAsInt(x), want);
        String after = answersOf(x);
        String without = answersOf(maker.get());
        if (!after.equals(without)) {
            wrong++;
            System.out.println(part + ": " + what + " changed something: " + after + ", due is " + without);
        }
    }

    protected static void end() {
        System.out.println(wrong == 0 ? checks + " checks are as due" : wrong + " answers are not as due");
        if (wrong != 0) {
            System.exit(1);
        }
    }
}
