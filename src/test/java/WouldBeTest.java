/** Promises 13 and 14: dinner, best. */
public final class WouldBeTest {
    public static void main(String[] args) throws Exception {
        Cases.run(WouldBeTest.class);
    }

    // ---- promise 13

    private static final String DINNER = "DINNER for some HOUSES (as bits) of so many HOURS (1 to 6, none behind HOUR"
            + " 11): at which HOUR, the first, it can begin, so that at none of its HOURS TRUTH is said in any of"
            + " these; none.";
    private static final String DINNER_REFUSED = "OUTSIDE: houses (bits, one at least; so always without a COLONY),"
            + " hours (1 to 6).";
    /** No truth is said in 0 at 2 to 5, in 1 at 2 to 6, in 2 at 3 to 6, in 3 at even hours, in 4 at 3 to 7. */
    private static final String EACH_KIND = "h2,l4,o1,d7,c3;2638";

    @Says({DINNER, "DINNER; NONE."})
    static void p13_dinner_firstHourAndNone() {
        Talk.of(EACH_KIND).asks("dinner 1 4", 2).asks("dinner 1 5", GongTide.NONE).due("dinner 2 5", 2)
                .due("dinner 16 5", 3).due("dinner 16 6", GongTide.NONE);
    }

    @Says(DINNER)
    static void p13_dinner_someHousesAndAll() {
        Talk.of(EACH_KIND).due("dinner 23 3", 3).due("dinner 23 4", GongTide.NONE).due("dinner 31 1", 4)
                .due("dinner 31 2", GongTide.NONE).due("dinner 3 4", 2).due("dinner 3 5", GongTide.NONE)
                .due("dinner 9 1", 2).due("dinner 8 1", 0).due("dinner 8 2", GongTide.NONE);
    }

    @Says(DINNER)
    static void p13_dinner_housesThatAreNotNamedMaySayTruth() {
        Talk.of("h9,h0;09").due("dinner 2 5", 0).due("dinner 1 1", GongTide.NONE).due("dinner 3 1", GongTide.NONE);
    }

    @Says(DINNER)
    static void p13_dinner_endsAtTheLastHourNotBehindIt() {
        Talk late = Talk.of("h0,c9;99");
        late.due("dinner 1 3", 9).due("dinner 1 4", GongTide.NONE).due("dinner 1 6", GongTide.NONE);
        late.due("dinner 2 1", 10).due("dinner 2 2", 10).due("dinner 2 3", GongTide.NONE).due("dinner 3 2", 10);
        // At a creek what came at 11 would be told at 12, if there was such an hour.
        Talk.of("h0,c0;99").due("dinner 2 2", 10).due("dinner 2 3", GongTide.NONE);
    }

    @Says(DINNER)
    static void p13_dinner_sixHoursFromTheFirstOnAndToTheLast() {
        Talk.of("h0,h0;0929").due("dinner 3 6", 0);
        Talk.of("h0,h0;6999").due("dinner 3 6", 6);
    }

    @Says(DINNER)
    static void p13_dinner_behindHoursThatAreTooFew() {
        Talk.of("h0,h0;0249").due("dinner 3 1", 0).due("dinner 3 2", 4).due("dinner 3 5", 4)
                .due("dinner 3 6", GongTide.NONE);
    }

    @Says({DINNER, "At MANNERS 0 TRUTH is said; from 1 to 4 one is POLITE"})
    static void p13_dinner_oneIsPoliteAt1() {
        Talk.of("h0,h1;01").due("dinner 1 1", 0).due("dinner 2 1", GongTide.NONE);
    }

    @Says(DINNER_REFUSED)
    static void p13_dinner_noHouse() {
        Talk.ofAll().outside("dinner 0 1", "dinner 0 6");
    }

    @Says(DINNER_REFUSED)
    static void p13_dinner_bitsOfHousesThatAreNotThere() {
        Talk.ofAll().outside("dinner 32 1", "dinner 33 1", "dinner 63 1", "dinner 2147483647 1", "dinner -1 1",
                "dinner -2147483648 1", "dinner -2147483647 1");
        Talk.of("h0,h0;09").due("dinner 3 1", 0).outside("dinner 4 1", "dinner 5 1", "dinner 7 1", "dinner 16 1");
    }

    @Says(DINNER_REFUSED)
    static void p13_dinner_hoursTooFewOrTooMany() {
        Talk.ofAll().outside("dinner 1 0", "dinner 31 7", "dinner 1 -1", "dinner 1 12", "dinner 1 2147483647",
                "dinner 1 -2147483648");
    }

    @Says(DINNER_REFUSED)
    static void p13_dinner_noColony() {
        Talk.none().outside("dinner 1 1", "dinner 3 6", "dinner 31 1", "dinner 0 1", "dinner -1 1", "dinner 1 7");
    }

    // ---- promise 14

    private static final String BEST = "STRIKE: at which HOUR (0 to 9) one more STROKE, so LOUD, so that at most HOURS"
            + " of all HOUSES together nobody says TRUTH: of like ones the least; at how many.";
    private static final String BEST_TOLD = "STRIKE: what = 0 at which HOUR, 1 at how many.";
    private static final String BEST_REFUSED = "OUTSIDE: loud (1 to 9), what; STATE: no COLONY.";

    private static void best(Talk talk, int loud, int hour, int many) {
        talk.asks("best " + loud + " 0", hour).asks("best " + loud + " 1", many);
    }

    @Says({BEST, BEST_TOLD, BEST_REFUSED})
    static void p14_best_leastAndGreatestLoud() {
        Talk talk = Talk.of("h0,h9;09");
        best(talk, 9, 4, 10);
        best(talk, 5, 5, 8);
        best(talk, 1, 0, 6);
        best(Talk.of("h2,l4,o1,c3;26"), 9, 5, 27);
    }

    @Says(BEST)
    static void p14_best_atTheLastHourAlone() {
        best(Talk.of("h0,h0;0949"), 5, 9, 24);
    }

    @Says(BEST)
    static void p14_best_ofLikeOnesTheLeast() {
        best(Talk.of("h0,h0;0949"), 9, 7, 24);
        best(Talk.of("h0,h0;0959"), 1, 0, 20);
    }

    @Says(BEST)
    static void p14_best_whereNoneHelpsTheFirst() {
        best(Talk.of("d0,d9;01"), 9, 0, 12);
        best(Talk.of("h9,h9;01"), 1, 0, 0);
    }

    @Says(BEST)
    static void p14_best_whereNobodySaysTruthAnyhow() {
        best(Talk.of("h0,h0,h0,h0,h0;095999"), 9, 0, 60);
    }

    @Says(BEST)
    static void p14_best_behindSixStrokes() {
        Talk talk = Talk.of("h0,h9;09010101").then("strike 0 1").then("strike 0 1");
        best(talk, 9, 4, 11);
        talk.due("count 1", 6).full("strike 4 9");
    }

    @Says(BEST)
    static void p14_best_goesByLevelsAndStrokesAsTheyAre() {
        Talk talk = Talk.of("h0,h9;09").then("felt 0 0");
        best(talk, 9, 0, 5);
        best(talk, 1, 0, 1);
        best(talk.then("raise 1 0"), 9, 0, 10);
    }

    @Says(BEST_REFUSED)
    static void p14_best_loudTooSmallOrTooLarge() {
        Talk.ofAll().outside("best 0 0", "best 10 1", "best -1 0", "best 2147483647 0", "best -2147483648 1");
    }

    @Says(BEST_REFUSED)
    static void p14_best_whatTooSmallOrTooLarge() {
        Talk.ofAll().outside("best 1 -1", "best 1 2", "best 9 2147483647", "best 9 -2147483648");
    }

    @Says(BEST_REFUSED)
    static void p14_best_noColony() {
        Talk.none().state("best 1 0", "best 9 1");
    }

    @Says({BEST_REFUSED, "Refusals, of several the first as told by each call"})
    static void p14_best_outsideIsToldBeforeState() {
        Talk.none().outside("best 0 0", "best 10 0", "best 1 -1", "best 1 2");
    }
}
