/** Promises 6 to 8: about, as, raise. */
public final class HousesTest {
    public static void main(String[] args) throws Exception {
        Cases.run(HousesTest.class);
    }

    // ---- promise 6

    private static final String WHATS = "Of a HOUSE: what = 0 KIND, 1 LEVEL, 2 OUT, 3 the greatest MANNERS of the DAY"
            + " there, 4 at which HOUR these are first, 10 to 21 MANNERS at HOUR 0 to 11.";
    private static final String MANNERS = "MANNERS in a HOUSE at an HOUR: the TIDE less its LEVEL, 0 at least";
    private static final String LOW = "in a LOW one as if its LEVEL was 3 less (0 at least)";
    private static final String CREEK = "in a CREEK, where it comes later, so, too, by the TIDE 1 HOUR before (which is"
            + " 0 at HOUR 0)";
    private static final String OLD = "in an OLD one by the lesser of the TIDE now and 1 HOUR before (which is 0 at"
            + " HOUR 0)";
    private static final String DEAF = "in a DEAF one, who has only the calendar, 3 at HOURS that are even, and 0 at"
            + " others.";

    @Says({WHATS, MANNERS, LOW, CREEK, OLD, DEAF, "A DAY has HOURS 0 to 11."})
    static void p06_about_aHouseOfEachKind() {
        Talk.of("h2,l4,o1,d7,c3;2638").tides("0 0 6 12 8 4 2 0 0 0 0 0")
                .row("about 0", 0, 4, "0 2 8 10 3").manners(0, "0 0 4 10 6 2 0 0 0 0 0 0")
                .row("about 1", 0, 4, "1 4 7 11 3").manners(1, "0 0 5 11 7 3 1 0 0 0 0 0")
                .row("about 2", 0, 4, "2 1 8 7 4").manners(2, "0 0 0 5 7 3 1 0 0 0 0 0")
                .row("about 3", 0, 4, "3 7 6 3 0").manners(3, "3 0 3 0 3 0 3 0 3 0 3 0")
                .row("about 4", 0, 4, "4 3 7 12 4").manners(4, "0 0 0 6 12 8 4 2 0 0 0 0");
    }

    @Says(WHATS)
    static void p06_about_changesNothing() {
        Talk.ofAll().asks("about 4 0", 4).asks("about 4 1", 3).asks("about 4 2", 5).asks("about 4 3", 11)
                .asks("about 4 4", 4).asks("about 4 10", 0).asks("about 4 21", 7);
    }

    @Says("10 to 21 MANNERS at HOUR 0 to 11.")
    static void p06_about_firstAndLastHour() {
        Talk.of("h0,h0;0799").due("about 0 10", 7).due("about 0 11", 5).due("about 0 20", 7).due("about 0 21", 5);
    }

    @Says(MANNERS)
    static void p06_about_tideBelowAtAndAboveTheLevel() {
        Talk.of("h4,h5;05").manners(0, "1 0 0 0 0 0 0 0 0 0 0 0").manners(1, "0 0 0 0 0 0 0 0 0 0 0 0");
    }

    @Says({MANNERS, "20 at most."})
    static void p06_about_greatestMannersAreOf20() {
        Talk.of("h0,h9,l9;595959").due("about 0 3", 20).due("about 1 3", 11).due("about 2 3", 14)
                .due("about 0 4", 5).due("about 0 16", 20);
    }

    @Says(LOW)
    static void p06_about_lowOfALevelBelow3() {
        Talk.of("l0,l1,l2,l3,l4;01").row("about 0", 10, 11, "1 0").row("about 1", 10, 11, "1 0")
                .row("about 2", 10, 11, "1 0").row("about 3", 10, 11, "1 0").row("about 4", 10, 11, "0 0");
    }

    @Says(CREEK)
    static void p06_about_creekAtHour0And11() {
        Talk.of("c2,c4;0989").tides("9 7 5 3 1 0 0 0 9 7 5 3").manners(0, "0 9 7 5 3 1 0 0 0 9 7 5")
                .manners(1, "0 8 6 4 2 0 0 0 0 8 6 4");
    }

    @Says(OLD)
    static void p06_about_oldAtHour0() {
        Talk.of("o0,o0;09").manners(0, "0 7 5 3 1 0 0 0 0 0 0 0");
    }

    @Says(OLD)
    static void p06_about_oldByTheLesserOfRisingAndEbbing() {
        // It rises from 2 to 5, ebbs, and rises from 0 to 9.
        Talk.of("o0,o1;324589").tides("0 0 0 2 5 3 1 0 9 7 5 3").manners(0, "0 0 0 0 2 3 1 0 0 7 5 3")
                .manners(1, "0 0 0 0 1 2 0 0 0 6 4 2");
    }

    @Says(DEAF)
    static void p06_about_deafWhateverTheLevelAndTheTide() {
        Talk.of("d0,d9;09495999").manners(0, "3 0 3 0 3 0 3 0 3 0 3 0").manners(1, "3 0 3 0 3 0 3 0 3 0 3 0");
        Talk.of("d0,d9;91").manners(0, "3 0 3 0 3 0 3 0 3 0 3 0").manners(1, "3 0 3 0 3 0 3 0 3 0 3 0");
    }

    @Says({WHATS, "OUT for a HOUSE: at how many HOURS of the DAY TRUTH is said there.",
        "At MANNERS 0 TRUTH is said; from 1 to 4 one is POLITE"})
    static void p06_about_outAtNoHourAndAtAll() {
        Talk.of("h0,h9,d0;095899").due("about 0 2", 0).due("about 1 2", 12).due("about 2 2", 6);
        Talk.of("h0,h1;01").due("about 0 2", 11).due("about 1 2", 12);
    }

    @Says("3 the greatest MANNERS of the DAY there, 4 at which HOUR these are first")
    static void p06_about_greatestMannersOf0AreFirstAtHour0() {
        Talk.of("h9,h0;99").due("about 0 3", 0).due("about 0 4", 0);
    }

    @Says("3 the greatest MANNERS of the DAY there, 4 at which HOUR these are first")
    static void p06_about_likeGreatestMannersAreToldByTheFirst() {
        Talk.of("h0,d0,c0;154595").due("about 0 3", 5).due("about 0 4", 1).due("about 1 4", 0).due("about 2 4", 2);
        // 27 and 21 stand at 20 both.
        Talk.of("h0,h0;191919").due("about 0 4", 1);
    }

    @Says("3 the greatest MANNERS of the DAY there, 4 at which HOUR these are first")
    static void p06_about_greatestMannersOfTheLastHours() {
        Talk.of("h0,c0;99").due("about 0 3", 9).due("about 0 4", 9).due("about 1 3", 9).due("about 1 4", 10);
    }

    @Says({"UNKNOWN; OUTSIDE.", "UNKNOWN (a number names nothing)"})
    static void p06_about_houseTooSmall() {
        Talk.ofAll().unknown("about -1 0", "about -1 10", "about -2147483648 0");
    }

    @Says({"UNKNOWN; OUTSIDE.", "UNKNOWN (a number names nothing)"})
    static void p06_about_houseTooLarge() {
        Talk.ofAll().unknown("about 5 0", "about 6 21", "about 2147483647 0");
        Talk.of("h0,h0;01").unknown("about 2 0", "about 4 0");
    }

    @Says({"UNKNOWN; OUTSIDE.", "OUTSIDE (it is not as told)"})
    static void p06_about_whatTooSmall() {
        Talk.ofAll().outside("about 0 -1", "about 4 -2147483648");
    }

    @Says({"UNKNOWN; OUTSIDE.", "OUTSIDE (it is not as told)"})
    static void p06_about_whatBetween4And10() {
        Talk.ofAll().outside("about 0 5", "about 0 6", "about 0 7", "about 0 8", "about 4 9");
    }

    @Says({"UNKNOWN; OUTSIDE.", "OUTSIDE (it is not as told)"})
    static void p06_about_whatTooLarge() {
        Talk.ofAll().outside("about 0 22", "about 0 23", "about 4 2147483647");
    }

    @Says({"UNKNOWN; OUTSIDE.", "Refusals, of several the first as told by each call"})
    static void p06_about_unknownIsToldBeforeOutside() {
        Talk.ofAll().unknown("about -1 -1", "about 5 5", "about 5 22");
        Talk.none().unknown("about 0 5");
    }

    // ---- promise 7

    private static final String AS = "A HOUSE taken as a KIND: its number; NONE: it is none such (the cast fails).";
    private static final String ALL_HOUSES = "All are HOUSES; a CREEK is a LOW one, too.";

    @Says({AS, ALL_HOUSES})
    static void p07_as_allAreHouses() {
        Talk.of("h0,l0,o0,d0,c0;01").asks("as 0 0", 0).asks("as 1 0", 1).asks("as 2 0", 2).asks("as 3 0", 3)
                .asks("as 4 0", 4);
    }

    @Says({AS, ALL_HOUSES})
    static void p07_as_aCreekIsALowOneButNoLowOneACreek() {
        Talk.of("l0,c0;01").due("as 1 1", 1).due("as 1 4", 1).due("as 0 1", 0).asks("as 0 4", GongTide.NONE);
    }

    @Says(AS)
    static void p07_as_eachHouseByEachKind() {
        Talk.of("h0,l0,o0,d0,c0;01").row("as 0", 0, 4, "0 -1 -1 -1 -1").row("as 1", 0, 4, "1 1 -1 -1 -1")
                .row("as 2", 0, 4, "2 -1 2 -1 -1").row("as 3", 0, 4, "3 -1 -1 3 -1").row("as 4", 0, 4, "4 4 -1 -1 4");
    }

    @Says("(the cast fails). UNKNOWN; OUTSIDE.")
    static void p07_as_houseTooSmallOrTooLarge() {
        Talk.ofAll().unknown("as -1 0", "as 5 0", "as 2147483647 0", "as -2147483648 0");
        Talk.none().unknown("as 0 0");
    }

    @Says("(the cast fails). UNKNOWN; OUTSIDE.")
    static void p07_as_kindTooSmallOrTooLarge() {
        Talk.ofAll().outside("as 0 -1", "as 0 5", "as 4 2147483647", "as 4 -2147483648");
    }

    @Says({"(the cast fails). UNKNOWN; OUTSIDE.", "Refusals, of several the first as told by each call"})
    static void p07_as_unknownIsToldBeforeOutside() {
        Talk.ofAll().unknown("as -1 -1", "as 5 5");
        Talk.none().unknown("as 0 5");
    }

    // ---- promise 8

    private static final String RAISE = "Its LEVEL becomes so much: how much it was.";
    private static final String RAISE_REFUSED = "UNKNOWN; OUTSIDE: level (0 to 9).";

    @Says({RAISE, RAISE_REFUSED})
    static void p08_raise_toTheLeastAndTheGreatestLevel() {
        Talk.of("h2,l4;26").due("raise 0 9", 2).due("about 0 1", 9).due("raise 0 0", 9).due("about 0 1", 0)
                .due("raise 1 9", 4).due("about 1 1", 9);
    }

    @Says(RAISE)
    static void p08_raise_mannersGoByTheLevelThen() {
        Talk.of("h2,l4;26").then("raise 0 0").manners(0, "0 0 6 4 2 0 0 0 0 0 0 0")
                .manners(1, "0 0 5 3 1 0 0 0 0 0 0 0").then("raise 1 5").manners(1, "0 0 4 2 0 0 0 0 0 0 0 0")
                .manners(0, "0 0 6 4 2 0 0 0 0 0 0 0");
    }

    @Says(RAISE)
    static void p08_raise_toTheSameIsAChange() {
        Talk.of("h2,l4;26").due("raise 0 2", 2).due("count 5", 1).due("raise 0 2", 2).due("count 5", 2)
                .due("about 0 1", 2);
    }

    @Says(RAISE_REFUSED)
    static void p08_raise_houseTooSmallOrTooLarge() {
        Talk.ofAll().unknown("raise -1 0", "raise 5 0", "raise 2147483647 0", "raise -2147483648 0");
        Talk.none().unknown("raise 0 0");
    }

    @Says(RAISE_REFUSED)
    static void p08_raise_levelTooSmall() {
        Talk.ofAll().outside("raise 0 -1", "raise 4 -2147483648");
    }

    @Says(RAISE_REFUSED)
    static void p08_raise_levelTooLarge() {
        Talk.ofAll().outside("raise 0 10", "raise 4 2147483647");
    }

    @Says({RAISE_REFUSED, "Refusals, of several the first as told by each call"})
    static void p08_raise_unknownIsToldBeforeOutside() {
        Talk.ofAll().unknown("raise -1 -1", "raise 5 10");
        Talk.none().unknown("raise 0 10");
    }
}
