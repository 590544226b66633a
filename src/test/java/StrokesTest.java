/** Promises 9 to 12: tide, strike, felt, stroke. */
public final class StrokesTest {
    public static void main(String[] args) throws Exception {
        Cases.run(StrokesTest.class);
    }

    // ---- promise 9

    private static final String TIDE = "The TIDE at an HOUR: of each STROKE, from its HOUR on, as much as it is LOUD,"
            + " 2 less in each HOUR behind it (0 at least), together; 20 at most.";
    private static final String TIDE_REFUSED = "OUTSIDE: hour (0 to 11); STATE: no COLONY.";

    @Says({"The TIDE at an HOUR.", TIDE})
    static void p09_tide_ofOneStroke() {
        Talk.of("h0,h0;34").tides("0 0 0 4 2 0 0 0 0 0 0 0").asks("tide 3", 4);
    }

    @Says(TIDE)
    static void p09_tide_oddLoudEndsAt0NotBelow() {
        Talk.of("h0,h0;03").tides("3 1 0 0 0 0 0 0 0 0 0 0");
        // What is gone takes nothing from the other one.
        Talk.of("h0,h0;0149").tides("1 0 0 0 9 7 5 3 1 0 0 0");
    }

    @Says({TIDE, "A DAY has HOURS 0 to 11."})
    static void p09_tide_strokesAtTheFirstAndTheLastHour() {
        Talk.of("h0,h0;09").tides("9 7 5 3 1 0 0 0 0 0 0 0");
        Talk.of("h0,h0;99").tides("0 0 0 0 0 0 0 0 0 9 7 5");
    }

    @Says(TIDE)
    static void p09_tide_strokesTogether() {
        Talk.of("h0,h0;0929").tides("9 7 14 10 6 3 1 0 0 0 0 0");
        Talk.of("h0,h0;2929").tides("0 0 18 14 10 6 2 0 0 0 0 0");
    }

    @Says(TIDE)
    static void p09_tide_20Stands21IsCut() {
        Talk.of("h0,h0;090902").due("tide 0", 20);
        Talk.of("h0,h0;090903").due("tide 0", 20);
        Talk.of("h0,h0;090901").due("tide 0", 19);
    }

    @Says(TIDE)
    static void p09_tide_ebbsFromWhatIsCut() {
        // 27, 21, 15, 9, 3 together: no more than 20 of it stands.
        Talk.of("h0,h0;191919").tides("0 20 20 15 9 3 0 0 0 0 0 0");
        Talk.of("h0,h0;19191919").then("strike 1 9").then("strike 1 9").tides("0 20 20 20 18 6 0 0 0 0 0 0");
    }

    @Says(TIDE_REFUSED)
    static void p09_tide_hourTooSmall() {
        Talk.ofAll().outside("tide -1", "tide -2147483648");
    }

    @Says(TIDE_REFUSED)
    static void p09_tide_hourTooLarge() {
        Talk.ofAll().outside("tide 12", "tide 2147483647");
    }

    @Says(TIDE_REFUSED)
    static void p09_tide_noColony() {
        Talk.none().state("tide 0", "tide 11");
    }

    @Says({TIDE_REFUSED, "Refusals, of several the first as told by each call"})
    static void p09_tide_outsideIsToldBeforeState() {
        Talk.none().outside("tide -1", "tide 12");
    }

    // ---- promise 10

    private static final String STRIKE = "One more STROKE: its number.";
    private static final String STRIKE_REFUSED = "OUTSIDE: hour (0 to 9), loud (1 to 9); STATE: no COLONY; FULL: there"
            + " are 6.";

    @Says({STRIKE, STRIKE_REFUSED})
    static void p10_strike_leastAndGreatestHourAndLoud() {
        Talk.of("h0,h0;09").due("strike 9 1", 1).due("stroke 1 0", 9).due("stroke 1 1", 1).due("strike 0 9", 2)
                .due("stroke 2 0", 0).due("stroke 2 1", 9).tides("18 14 10 6 2 0 0 0 0 1 0 0").due("count 1", 3)
                .due("count 5", 2);
    }

    @Says(STRIKE_REFUSED)
    static void p10_strike_hourTooSmallOrTooLarge() {
        Talk.ofAll().outside("strike -1 1", "strike 10 1", "strike 11 9", "strike 2147483647 1",
                "strike -2147483648 1");
    }

    @Says(STRIKE_REFUSED)
    static void p10_strike_loudTooSmallOrTooLarge() {
        Talk.ofAll().outside("strike 0 0", "strike 0 10", "strike 9 -1", "strike 9 2147483647",
                "strike 9 -2147483648");
    }

    @Says(STRIKE_REFUSED)
    static void p10_strike_noColony() {
        Talk.none().state("strike 0 1", "strike 9 9");
    }

    @Says(STRIKE_REFUSED)
    static void p10_strike_theSixthFitsTheSeventhIsFull() {
        Talk.of("h0,h0;01020304").due("strike 0 1", 4).due("strike 9 9", 5).full("strike 0 1", "strike 9 9")
                .due("count 1", 6).due("count 5", 2);
    }

    @Says(STRIKE_REFUSED)
    static void p10_strike_aStrokeOf0LoudMakesNoRoom() {
        Talk.of("h0,h0;01020304").then("strike 0 1").then("strike 0 1").then("felt 0 0").full("strike 0 1");
    }

    @Says({STRIKE_REFUSED, "Refusals, of several the first as told by each call"})
    static void p10_strike_outsideIsToldBeforeState() {
        Talk.none().outside("strike -1 1", "strike 10 1", "strike 0 0", "strike 0 10");
    }

    @Says({STRIKE_REFUSED, "Refusals, of several the first as told by each call"})
    static void p10_strike_outsideIsToldBeforeFull() {
        Talk.of("h0,h0;01020304").then("strike 0 1").then("strike 0 1").outside("strike 10 1", "strike 0 0",
                "strike -1 1", "strike 0 10");
    }

    // ---- promise 11

    private static final String FELT = "Felt is put round the beater: a STROKE is so LOUD (0: it is not heard) from now"
            + " on: how LOUD it was.";
    private static final String FELT_REFUSED = "UNKNOWN: stroke; OUTSIDE: loud (0 to 9).";

    @Says({FELT, FELT_REFUSED})
    static void p11_felt_to0ItIsNotHeard() {
        Talk.of("h0,h0;0929").due("felt 0 0", 9).due("stroke 0 1", 0).tides("0 0 9 7 5 3 1 0 0 0 0 0")
                .due("count 1", 2).due("stroke 0 0", 0).due("stroke 1 1", 9);
    }

    @Says({FELT, FELT_REFUSED})
    static void p11_felt_to9AndLouderThanItWas() {
        Talk.of("h0,h0;0128").due("felt 0 9", 1).due("felt 1 0", 8).due("felt 1 9", 0)
                .tides("9 7 14 10 6 3 1 0 0 0 0 0");
    }

    @Says(FELT)
    static void p11_felt_toTheSameIsAChange() {
        Talk.of("h0,h0;09").due("felt 0 9", 9).due("count 5", 1).due("felt 0 9", 9).due("count 5", 2);
    }

    @Says(FELT)
    static void p11_felt_theStrokeThatWasStruckLast() {
        Talk.of("h0,h0;01020304").then("strike 5 5").then("strike 6 6").due("felt 5 2", 6).due("stroke 5 1", 2)
                .due("stroke 4 1", 5);
    }

    @Says(FELT_REFUSED)
    static void p11_felt_strokeTooSmallOrTooLarge() {
        Talk.ofAll().unknown("felt -1 0", "felt 3 0", "felt 5 0", "felt 6 0", "felt 2147483647 0",
                "felt -2147483648 0");
        Talk.of("h0,h0;01020304").then("strike 5 5").then("strike 6 6").unknown("felt 6 0");
        Talk.none().unknown("felt 0 0");
    }

    @Says(FELT_REFUSED)
    static void p11_felt_loudTooSmall() {
        Talk.ofAll().outside("felt 0 -1", "felt 2 -2147483648");
    }

    @Says(FELT_REFUSED)
    static void p11_felt_loudTooLarge() {
        Talk.ofAll().outside("felt 0 10", "felt 2 2147483647");
    }

    @Says({FELT_REFUSED, "Refusals, of several the first as told by each call"})
    static void p11_felt_unknownIsToldBeforeOutside() {
        Talk.ofAll().unknown("felt -1 -1", "felt 3 10");
        Talk.none().unknown("felt 0 10");
    }

    // ---- promise 12

    private static final String STROKE = "Of a STROKE: what = 0 the HOUR, 1 how LOUD, 2 at which HOUR it is gone (the"
            + " first, from its own on, at which nothing of it is left; NONE: not on that DAY).";
    private static final String STROKE_REFUSED = "UNKNOWN; OUTSIDE.";

    private static void gone(int hour, int loud, int want) {
        Talk.of("h0,h0;" + hour + loud).due("stroke 0 0", hour).due("stroke 0 1", loud).asks("stroke 0 2", want);
    }

    @Says(STROKE)
    static void p12_stroke_goneOfEvenAndOddLoud() {
        gone(0, 1, 1);
        gone(0, 2, 1);
        gone(0, 3, 2);
        gone(3, 8, 7);
        gone(3, 9, 8);
    }

    @Says(STROKE)
    static void p12_stroke_goneAtTheLastHour() {
        gone(9, 3, 11);
        gone(9, 4, 11);
        gone(7, 7, 11);
        gone(7, 8, 11);
        gone(6, 9, 11);
    }

    @Says(STROKE)
    static void p12_stroke_notGoneOnThatDay() {
        gone(9, 5, GongTide.NONE);
        gone(9, 6, GongTide.NONE);
        gone(8, 7, GongTide.NONE);
        gone(7, 9, GongTide.NONE);
        gone(9, 9, GongTide.NONE);
    }

    @Says(STROKE)
    static void p12_stroke_of0LoudIsGoneAtItsOwnHour() {
        Talk.of("h0,h0;0999").then("felt 0 0").then("felt 1 0").due("stroke 0 2", 0).due("stroke 1 2", 9)
                .due("stroke 1 0", 9).due("stroke 1 1", 0);
    }

    @Says(STROKE)
    static void p12_stroke_goneWhileAnotherOneStands() {
        Talk.of("h0,h0;0129").due("stroke 0 2", 1).due("stroke 1 2", 7);
    }

    @Says(STROKE_REFUSED)
    static void p12_stroke_strokeTooSmallOrTooLarge() {
        Talk.ofAll().unknown("stroke -1 0", "stroke 3 0", "stroke 5 1", "stroke 6 2", "stroke 2147483647 0",
                "stroke -2147483648 0");
        Talk.none().unknown("stroke 0 0");
    }

    @Says(STROKE_REFUSED)
    static void p12_stroke_whatTooSmallOrTooLarge() {
        Talk.ofAll().outside("stroke 0 -1", "stroke 0 3", "stroke 2 2147483647", "stroke 2 -2147483648");
    }

    @Says({STROKE_REFUSED, "Refusals, of several the first as told by each call"})
    static void p12_stroke_unknownIsToldBeforeOutside() {
        Talk.ofAll().unknown("stroke -1 -1", "stroke 3 3");
        Talk.none().unknown("stroke 0 3");
    }
}
