/** The edges of promise 5: what each kind of rule gives. */
public final class KindEdges extends Checks {
    // Promise 5: make, what the kinds give.

    private static void numbersAreAnyInt() {
        SluiceRules x = new SluiceRules();
        gives("least flat", x, made(x, FLAT, MIN), 0, MIN);
        gives("largest flat", x, made(x, FLAT, MAX), 0, MAX);
        gives("NONE is a number there", x, made(x, FLAT, NONE), 0, -1);
        int hour = made(x, HOUR);
        gives("band to the least", x, made(x, BAND, hour, MIN, MAX, 0, 0), -1, MIN);
        gives("band to the largest", x, made(x, BAND, hour, MIN, MAX, 0, 0), 1, MAX);
    }

    private static void levelAsItIsThen() {
        SluiceRules x = new SluiceRules();
        x.basin(0);
        int level = made(x, LEVEL, 0);
        gives("empty", x, level, 3, 0);
        x.fill(0, FULL);
        gives("full", x, level, 3, FULL);
    }

    private static void tideModulo12() {
        SluiceRules x = new SluiceRules();
        int tide = made(x, TIDE);
        int[] hours = {0, 1, 5, 6, 7, 11, 12, 13, -1, -5, -6, -7, -11, -12, -13};
        int[] tides = {0, 1, 5, 6, 5, 1, 0, 1, 1, 5, 6, 5, 1, 0, 1};
        for (int i = 0; i < hours.length; i++) {
            gives("tide at " + hours[i], x, tide, hours[i], tides[i]);
        }
    }

    /** An int's product would wrap: 11 times 2147483647 is 5 modulo 12, wrapped it would be 9. */
    private static void tideByLong() {
        SluiceRules x = new SluiceRules();
        int tide = made(x, TIDE);
        x.moon(11);
        gives("largest hour", x, tide, MAX, 5);
        gives("least hour", x, tide, MIN, 4);
        x.moon(3);
        gives("an hour whose product is above an int", x, tide, 715827883, 3);
    }

    private static void hourIsAnyInt() {
        SluiceRules x = new SluiceRules();
        int hour = made(x, HOUR);
        gives("least", x, hour, MIN, MIN);
        gives("largest", x, hour, MAX, MAX);
    }

    private static void laterWraps() {
        SluiceRules x = new SluiceRules();
        int hour = made(x, HOUR);
        gives("upward", x, made(x, LATER, hour, 1), MAX, MIN);
        gives("downward", x, made(x, LATER, hour, -1), MIN, MAX);
        gives("by the least", x, made(x, LATER, hour, MIN), MIN, 0);
        gives("not yet", x, made(x, LATER, hour, 1), MAX - 1, MAX);
    }

    private static void sumWraps() {
        SluiceRules x = new SluiceRules();
        int big = twoTo62(x);
        gives("2^62 twice", x, made(x, SUM, big, big), 0, Long.MIN_VALUE);
        int least = leastLong(x);
        gives("-2^63 twice", x, made(x, SUM, least, least), 0, 0);
        gives("-2^63 and -1", x, made(x, SUM, least, made(x, FLAT, -1)), 0, Long.MAX_VALUE);
    }

    private static void sumIsLong() {
        SluiceRules x = new SluiceRules();
        int largest = made(x, FLAT, MAX);
        gives("largest ints", x, made(x, SUM, largest, largest), 0, 2L * MAX);
        gives("largest int less the least", x, made(x, LESS, largest, made(x, FLAT, MIN)), 0, (1L << 32) - 1);
        gives("product", x, made(x, SCALED, largest, MAX, 1), 0, (long) MAX * MAX);
    }

    private static void differenceWraps() {
        SluiceRules x = new SluiceRules();
        int least = leastLong(x);
        gives("-2^63 less 1", x, made(x, LESS, least, made(x, FLAT, 1)), 0, Long.MAX_VALUE);
        gives("0 less -2^63", x, made(x, LESS, made(x, FLAT, 0), least), 0, Long.MIN_VALUE);
    }

    private static void productWraps() {
        SluiceRules x = new SluiceRules();
        int big = twoTo62(x);
        gives("2^62 by 4", x, made(x, SCALED, big, 4, 1), 0, 0);
        gives("2^62 by 3, and then by 1000", x, made(x, SCALED, big, 3, 1000), 0, -4611686018427388L);
        gives("-2^63 by -1", x, made(x, SCALED, leastLong(x), -1, 1), 0, Long.MIN_VALUE);
    }

    private static void sumOfSlotsWraps() {
        SluiceRules x = new SluiceRules();
        int big = twoTo62(x);
        for (int slot = 0; slot < 4; slot++) {
            x.put(slot, big);
        }
        gives("2^62 twice", x, made(x, ALL, 0, 1), 0, Long.MIN_VALUE);
        gives("2^62 thrice", x, made(x, ALL, 0, 2), 0, -TWO_TO_62);
        gives("2^62 four times", x, made(x, ALL, 0, 3), 0, 0);
    }

    private static void leastAndMostOfEqualsAndLongs() {
        SluiceRules x = new SluiceRules();
        int big = twoTo62(x);
        int low = leastLong(x);
        int one = made(x, FLAT, 1);
        gives("least of equals", x, made(x, LEAST, one, one), 0, 1);
        gives("most of equals", x, made(x, MOST, one, one), 0, 1);
        gives("least of longs", x, made(x, LEAST, big, low), 0, Long.MIN_VALUE);
        gives("most of longs", x, made(x, MOST, big, low), 0, TWO_TO_62);
        gives("most, a above", x, made(x, MOST, big, one), 0, TWO_TO_62);
        gives("least, b below", x, made(x, LEAST, one, low), 0, Long.MIN_VALUE);
    }

    /** b reads the counter that a counts, and decides what is given. */
    private static void aAheadOfB() {
        SluiceRules x = new SluiceRules();
        int counter = made(x, COUNTED, made(x, FLAT, 0));
        int read = made(x, COUNT, counter);
        gives("sum", x, made(x, SUM, counter, read), 0, 1);
        gives("less", x, made(x, LESS, counter, read), 0, -2);
        gives("most", x, made(x, MOST, counter, read), 0, 3);
        int high = made(x, COUNTED, made(x, FLAT, 9));
        int readHigh = made(x, COUNT, high);
        gives("least", x, made(x, LEAST, high, readHigh), 0, 1);
        gives("least, count ahead", x, made(x, LEAST, readHigh, high), 0, 1);
        gives("less, count ahead", x, made(x, LESS, read, counter), 0, 3);
    }

    private static void alwaysBoth() {
        SluiceRules x = new SluiceRules();
        int counter = made(x, COUNTED, made(x, FLAT, 5));
        int other = made(x, COUNTED, leastLong(x));
        for (int kind = SUM; kind <= MOST; kind++) {
            due("ask of kind " + kind, x.ask(made(x, kind, other, counter), 0), 1);
            due("ask of kind " + kind, x.ask(made(x, kind, counter, other), 0), 1);
        }
        due("one", x.counted(counter), 8);
        due("other", x.counted(other), 8);
        due("of a rule and itself", x.ask(made(x, SUM, counter, counter), 0), 1);
        due("one counts twice", x.counted(counter), 10);
    }

    private static void scaledDownward() {
        SluiceRules x = new SluiceRules();
        int hour = made(x, HOUR);
        int half = made(x, SCALED, hour, 1, 2);
        int[] hours = {-3, -2, -1, 0, 1, 2, 3};
        int[] halves = {-2, -1, -1, 0, 0, 1, 1};
        for (int i = 0; i < hours.length; i++) {
            gives("half of " + hours[i], x, half, hours[i], halves[i]);
        }
        gives("-1 by 1000", x, made(x, SCALED, hour, -1, 1000), 1, -1);
        gives("999 by 1000", x, made(x, SCALED, hour, 1, 1000), 999, 0);
        gives("times 0", x, made(x, SCALED, hour, 0, 1000), MIN, 0);
        gives("-2^63 by 1000", x, made(x, SCALED, leastLong(x), 1, 1000), 0, -9223372036854776L);
    }

    private static void whenAboveZero() {
        SluiceRules x = new SluiceRules();
        int when = made(x, WHEN, made(x, HOUR), made(x, FLAT, 10), made(x, FLAT, 20));
        gives("1", x, when, 1, 10);
        gives("0", x, when, 0, 20);
        gives("-1", x, when, -1, 20);
        gives("2^62", x, made(x, WHEN, twoTo62(x), 1, 2), 0, 10);
        gives("-2^63", x, made(x, WHEN, leastLong(x), 1, 2), 0, 20);
    }

    private static void whenAsksOneOfBoth() {
        SluiceRules x = new SluiceRules();
        int hour = made(x, HOUR);
        int above = made(x, COUNTED, hour);
        int other = made(x, COUNTED, hour);
        int when = made(x, WHEN, hour, above, other);
        due("ask above 0", x.ask(when, 1), 1);
        due("b", x.counted(above), 1);
        due("c", x.counted(other), 0);
        due("steps", x.count(3), 4);
        due("ask at 0", x.ask(when, 0), 1);
        due("b", x.counted(above), 1);
        due("c", x.counted(other), 1);
    }

    private static void bandAtItsEnds() {
        SluiceRules x = new SluiceRules();
        int hour = made(x, HOUR);
        int band = made(x, BAND, hour, 50, 60, -3, 3);
        gives("below d", x, band, -4, 50);
        gives("d", x, band, -3, -3);
        gives("e", x, band, 3, 3);
        gives("above e", x, band, 4, 60);
        int widest = made(x, BAND, hour, 50, 60, MIN, MAX);
        gives("least", x, widest, MIN, MIN);
        gives("largest", x, widest, MAX, MAX);
    }

    private static void bandOfLongs() {
        SluiceRules x = new SluiceRules();
        gives("below", x, made(x, BAND, leastLong(x), 50, 60, MIN, MAX), 0, 50);
        gives("above", x, made(x, BAND, twoTo62(x), 50, 60, MIN, MAX), 0, 60);
    }

    private static void heldAsItWasMade() {
        SluiceRules x = new SluiceRules();
        x.basin(8);
        x.put(0, made(x, LEVEL, 0));
        int counter = made(x, COUNTED, made(x, SUM, made(x, SLOT, 0), made(x, HOUR)));
        int held = made(x, HELD, counter, MIN);
        x.fill(0, FULL);
        x.put(0, NONE);
        gives("held", x, held, 5, (long) MIN + 8);
        due("steps", x.count(3), 1);
        due("counted as it was made, not as it is asked", x.counted(counter), 1);
        gives("later held", x, made(x, LATER, held, 9), 5, (long) MIN + 8);
        gives("a long held", x, made(x, HELD, leastLong(x), 0), 0, Long.MIN_VALUE);
    }

    /** The rule that is counted reads its own counter, by a slot. */
    private static void countedCountsAhead() {
        SluiceRules x = new SluiceRules();
        int counter = made(x, COUNTED, made(x, SLOT, 2));
        due("at first", x.counted(counter), 0);
        x.put(2, made(x, COUNT, counter));
        gives("first", x, counter, 0, 1);
        gives("second", x, counter, 0, 2);
        x.put(2, NONE);
        due("lacking", x.ask(counter, 0), MISSING);
        due("counted all the same", x.counted(counter), 3);
    }

    private static void countAsItIsThen() {
        SluiceRules x = new SluiceRules();
        int counter = made(x, COUNTED, made(x, FLAT, 0));
        int count = made(x, COUNT, counter);
        gives("at first", x, count, 0, 0);
        gives("reading does not count", x, count, 0, 0);
        due("steps", x.count(3), 1);
        x.ask(counter, 0);
        gives("then", x, count, 0, 1);
    }

    private static void slotAsItIsThen() {
        SluiceRules x = new SluiceRules();
        int first = made(x, SLOT, 0);
        int last = made(x, SLOT, 7);
        x.put(0, made(x, FLAT, 5));
        x.put(7, made(x, FLAT, 6));
        gives("slot 0", x, first, 0, 5);
        gives("slot 7", x, last, 0, 6);
        x.put(0, last);
        gives("slot 0, of slot 7", x, first, 0, 6);
        due("steps", x.count(3), 3);
        x.put(7, NONE);
        due("slot 7 without", x.ask(last, 0), MISSING);
        due("steps", x.count(3), 1);
    }

    private static void allFromAOn() {
        SluiceRules x = new SluiceRules();
        int counter = made(x, COUNTED, made(x, FLAT, 0));
        int read = made(x, COUNT, counter);
        int all = made(x, ALL, 0, 7);
        for (int slot = 0; slot < 8; slot++) {
            x.put(slot, slot % 2 == 0 ? counter : read);
        }
        gives("in order", x, all, 0, 1 + 2 + 3 + 4);
        due("steps", x.count(3), 1 + 4 * 2 + 4);
    }

    private static void allOfNoMoreThanAToB() {
        SluiceRules x = new SluiceRules();
        x.put(3, made(x, FLAT, 10));
        x.put(4, made(x, FLAT, 200));
        gives("both", x, made(x, ALL, 3, 4), 0, 210);
        gives("one", x, made(x, ALL, 4, 4), 0, 200);
        due("steps", x.count(3), 2);
        x.put(0, 0);
        x.put(7, 1);
        gives("the first one", x, made(x, ALL, 0, 0), 0, 10);
        gives("the last one", x, made(x, ALL, 7, 7), 0, 200);
    }

    private static void allWithAnEmptySlot() {
        SluiceRules x = new SluiceRules();
        int ahead = made(x, COUNTED, made(x, FLAT, 1));
        int behind = made(x, COUNTED, 0);
        int all = made(x, ALL, 2, 4);
        x.put(2, ahead);
        x.put(4, behind);
        due("ask", x.ask(all, 0), MISSING);
        due("ahead of it", x.counted(ahead), 1);
        due("behind it", x.counted(behind), 0);
        due("steps", x.count(3), 3);
    }

    private static void edgesOfMakesKinds() {
        check(5, "0 FLAT a: a; b, c are numbers", KindEdges::numbersAreAnyInt);
        check(5, "1 LEVEL a: BASIN a's LEVEL as it is then.", KindEdges::levelAsItIsThen);
        check(5, "2 TIDE: modulo 12 (0 .. 11)", KindEdges::tideModulo12);
        check(5, "2 TIDE: m being HOUR times MOON (a long)", KindEdges::tideByLong);
        check(5, "3 HOUR: the HOUR (an int)", KindEdges::hourIsAnyInt);
        check(5, "HOUR (an int; sums with it wrap)", KindEdges::laterWraps);
        check(5, "a long (sums wrap)", KindEdges::sumWraps);
        check(5, "gives a long", KindEdges::sumIsLong);
        check(5, "a long (differences wrap)", KindEdges::differenceWraps);
        check(5, "a long (products wrap)", KindEdges::productWraps);
        check(5, "a long (sums wrap): 16 ALL", KindEdges::sumOfSlotsWraps);
        check(5, "6 LEAST, 7 MOST of both", KindEdges::leastAndMostOfEqualsAndLongs);
        check(5, "a is asked ahead of b", KindEdges::aAheadOfB);
        check(5, "always both", KindEdges::alwaysBoth);
        check(5, "8 SCALED: by c, downward", KindEdges::scaledDownward);
        check(5, "9 WHEN: RULE b then, if that was above 0, else RULE c", KindEdges::whenAboveZero);
        check(5, "9 WHEN: the other one is not asked", KindEdges::whenAsksOneOfBoth);
        check(5, "11 BAND: below d; above e; else itself", KindEdges::bandAtItsEnds);
        check(5, "11 BAND: a's is a long", KindEdges::bandOfLongs);
        check(5, "12 HELD: asked at HOUR b as this one was made", KindEdges::heldAsItWasMade);
        check(5, "13 COUNTED a: its COUNTER (0 at first) is one more; then a's", KindEdges::countedCountsAhead);
        check(5, "14 COUNT a: the COUNTER of that as it is then", KindEdges::countAsItIsThen);
        check(5, "15 SLOT a: the RULE that SLOT a has then", KindEdges::slotAsItIsThen);
        check(5, "16 ALL a b: from a on, each asked", KindEdges::allFromAOn);
        check(5, "16 ALL a b: SLOTS a .. b", KindEdges::allOfNoMoreThanAToB);
        check(5, "16 ALL a b: what they have then, or NONE", KindEdges::allWithAnEmptySlot);
    }

    public static void main(String[] args) {
        edgesOfMakesKinds();
        end();
    }
}
