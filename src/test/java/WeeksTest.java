import java.math.BigInteger;

/** Promise 19: weeks. */
public final class WeeksTest {
    private static final String WEEKS = "WEEKS by a SEED, as they would be: so many DAYS, on each of which each STROKE"
            + " (0 LOUD, too), by number, is at an HOUR by a DRAW of 10 in place of its own: at how many HOURS of all"
            + " HOUSES TRUTH is said; how high the TIDE is together in the last HOURS of all DAYS.";
    private static final String TOLD = "WEEKS: what = 0 at how many HOURS, 1 how high, 2 the SEED then.";
    private static final String DRAWS = "DRAWS: the next SEED each time: 1103515245 times it and 12345, its rest by 2"
            + " to the 31; then that by 65536 (rounded down), its rest.";
    private static final String REFUSED = "OUTSIDE: days (1 to 30), seed (0 at least), what; STATE: no COLONY.";
    private static final int GREATEST_SEED = Integer.MAX_VALUE;

    public static void main(String[] args) throws Exception {
        Cases.run(WeeksTest.class);
    }

    private static int seedBehind(int seed, int draws) {
        BigInteger next = BigInteger.valueOf(seed);
        for (int draw = 0; draw < draws; draw++) {
            next = next.multiply(BigInteger.valueOf(1103515245)).add(BigInteger.valueOf(12345))
                    .mod(BigInteger.TWO.pow(31));
        }
        return next.intValueExact();
    }

    /** Looks at all three answers, of which none may change anything. */
    private static void weeks(Talk talk, int days, int seed, int truths, int high, int draws) {
        String call = "weeks " + days + " " + seed + " ";
        talk.asks(call + 0, truths).asks(call + 1, high).asks(call + 2, seedBehind(seed, draws));
    }

    @Says({WEEKS, TOLD, REFUSED})
    static void p19_weeks_oneDayAndMore() {
        // Seed 1 draws 8, 8, 3, 5, 1, 7, 0, 9, 2, 6.
        Talk talk = Talk.of("h0,h9;09");
        weeks(talk, 1, 1, 20, 3, 1);
        weeks(talk, 2, 1, 40, 6, 2);
        weeks(talk, 3, 1, 59, 6, 3);
        weeks(talk, 10, 1, 194, 12, 10);
    }

    @Says({WEEKS, REFUSED})
    static void p19_weeks_thirtyDaysOfSixStrokesDrawEachTime() {
        Talk talk = Talk.of("h9,h9,h9,h9,h9;01010101").then("strike 0 1").then("strike 0 1");
        talk.asks("weeks 30 5 0", 1800).asks("weeks 30 5 2", seedBehind(5, 180));
    }

    @Says({DRAWS, REFUSED})
    static void p19_weeks_leastSeed() {
        // Seed 0 draws 0, and 12345 is the next one.
        weeks(Talk.of("h0,h9;99"), 1, 0, 19, 0, 1);
        Talk.of("h0,h9;99").due("weeks 1 0 2", 12345);
    }

    @Says({DRAWS, REFUSED})
    static void p19_weeks_greatestSeedWrapsBy2ToThe31() {
        // It draws 9, 9, 2.
        Talk talk = Talk.of("h0,h9;01").then("felt 0 9").due("weeks 1 " + GREATEST_SEED + " 2", 1043980748);
        weeks(talk, 1, GREATEST_SEED, 21, 5, 1);
        weeks(talk, 2, GREATEST_SEED, 42, 10, 2);
        weeks(talk, 3, GREATEST_SEED, 61, 10, 3);
        talk.due("weeks 30 " + GREATEST_SEED + " 2", seedBehind(GREATEST_SEED, 30));
    }

    @Says(DRAWS)
    static void p19_weeks_drawsOfManySeeds() {
        int[] lastTides = {0, 0, 0, 0, 0, 0, 0, 1, 3, 5};
        for (int seed = 0; seed < 2000000000; seed += 9999991) {
            int hour = seedBehind(seed, 1) / 65536 % 10;
            Talk.of("h0,h0;09").due("weeks 1 " + seed + " 1", lastTides[hour]);
        }
    }

    @Says(WEEKS)
    static void p19_weeks_strokesAreDrawnByNumber() {
        // This seed draws 8, then 3.
        int seed = seedBehind(1, 1);
        weeks(Talk.of("h0,h9;0901"), 1, seed, 19, 3, 2);
        weeks(Talk.of("h0,h9;0109"), 1, seed, 18, 0, 2);
    }

    @Says(WEEKS)
    static void p19_weeks_atDrawnHoursInPlaceOfTheirOwn() {
        weeks(Talk.of("h0,h9;0929"), 1, 1, 17, 6, 2);
        weeks(Talk.of("h0,h9;9959"), 1, 1, 17, 6, 2);
        Talk.of("h0,h9;0929").then("weeks 1 1 0").tides("9 7 14 10 6 3 1 0 0 0 0 0").due("stroke 1 0", 2);
    }

    @Says(WEEKS)
    static void p19_weeks_aStrokeOf0LoudIsDrawnToo() {
        Talk talk = Talk.of("h0,h9;0909").then("felt 0 0");
        weeks(talk, 1, 1, 20, 3, 2);
        weeks(talk, 2, 1, 39, 3, 4);
        weeks(talk.then("felt 1 0"), 2, 1, 48, 0, 4);
    }

    @Says({WEEKS, "20 at most."})
    static void p19_weeks_aTideOfADayIs20AtMost() {
        // This seed draws 9 five times, and 5: 25 at the last hour, were it not for the 20.
        Talk talk = Talk.of("h0,h0;09090909").then("strike 0 9").then("strike 0 9");
        weeks(talk, 1, 140106, 10, 20, 6);
    }

    @Says(WEEKS)
    static void p19_weeks_housesThatGoByTheHourBeforeHaveNoneOfTheDayBefore() {
        // A stroke at 9 on the first day leaves nothing for hour 0 of the second.
        weeks(Talk.of("c0,o0;09"), 2, GREATEST_SEED, 40, 10, 2);
        Talk.of("d0,d9;19").due("weeks 30 7 0", 360);
    }

    @Says(REFUSED)
    static void p19_weeks_daysTooFewOrTooMany() {
        Talk.ofAll().outside("weeks 0 1 0", "weeks 31 1 0", "weeks -1 1 1", "weeks 2147483647 1 2",
                "weeks -2147483648 1 2");
    }

    @Says(REFUSED)
    static void p19_weeks_seedTooSmall() {
        Talk.ofAll().outside("weeks 1 -1 0", "weeks 30 -1 1", "weeks 1 -2147483648 2");
    }

    @Says(REFUSED)
    static void p19_weeks_whatTooSmallOrTooLarge() {
        Talk.ofAll().outside("weeks 1 1 -1", "weeks 1 1 3", "weeks 30 1 2147483647", "weeks 30 1 -2147483648");
    }

    @Says(REFUSED)
    static void p19_weeks_noColony() {
        Talk.none().state("weeks 1 0 0", "weeks 30 2147483647 2");
    }

    @Says({REFUSED, "Refusals, of several the first as told by each call"})
    static void p19_weeks_outsideIsToldBeforeState() {
        Talk.none().outside("weeks 0 1 0", "weeks 31 1 0", "weeks 1 -1 0", "weeks 1 1 -1", "weeks 1 1 3");
    }
}
