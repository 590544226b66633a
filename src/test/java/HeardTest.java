/** Promises 15 to 18: hear, forget, hours, ask. */
public final class HeardTest {
    public static void main(String[] args) throws Exception {
        Cases.run(HeardTest.class);
    }

    private static final String FIRST_TOLD = "Refusals, of several the first as told by each call";

    // ---- promise 15

    private static final String HEAR = "It is HEARD: how much is.";
    private static final String HEAR_REFUSED = "UNKNOWN: house; OUTSIDE: hour (0 to 11), loud (1 to 9), how (0 to 2);"
            + " FULL.";
    private static final String HEARD = "HEARD (6 at most): that in a HOUSE at an HOUR TRUTH was said (0), one was"
            + " POLITE (1), or LOVED all (2), one more STROKE, so LOUD, having been struck at an HOUR that is not"
            + " known.";

    @Says({HEAR, HEARD, HEAR_REFUSED})
    static void p15_hear_leastAndGreatestOfEach() {
        Talk.of("h0,h0,h0,h0,h0;01").due("hear 0 0 1 0", 1).due("hear 4 11 9 2", 2).due("count 6", 2)
                .due("count 5", 0);
    }

    @Says(HEAR)
    static void p15_hear_theSameTwiceAndWhatCannotBe() {
        Talk.of("h0,h9;09").due("hear 0 6 3 1", 1).due("hear 0 6 3 1", 2).due("hours", 96).due("hear 0 6 3 2", 3)
                .due("hours", 0).due("count 6", 3);
    }

    private static Talk six() {
        return Talk.of("h0,h9;09").due("hear 0 0 1 2", 1).due("hear 1 11 9 0", 2).due("hear 0 0 1 2", 3)
                .due("hear 0 1 1 2", 4).due("hear 1 0 2 0", 5);
    }

    @Says({HEAR_REFUSED, HEARD, "FULL; they change nothing."})
    static void p15_hear_theSixthFitsTheSeventhIsFull() {
        six().due("hear 0 6 3 1", 6).due("hours", 96).full("hear 0 6 3 0", "hear 0 0 1 0").due("count 6", 6)
                .due("hours", 96);
    }

    @Says(HEAR_REFUSED)
    static void p15_hear_houseTooSmallOrTooLarge() {
        Talk.ofAll().unknown("hear -1 0 1 0", "hear 5 0 1 0", "hear 2147483647 0 1 0", "hear -2147483648 0 1 0");
        Talk.of("h0,h9;09").unknown("hear 2 0 1 0", "hear 4 0 1 0");
    }

    @Says(HEAR_REFUSED)
    static void p15_hear_noColony() {
        Talk.none().unknown("hear 0 0 1 0", "hear 4 11 9 2");
    }

    @Says(HEAR_REFUSED)
    static void p15_hear_hourTooSmallOrTooLarge() {
        Talk.ofAll().outside("hear 0 -1 1 0", "hear 0 12 1 0", "hear 0 2147483647 1 0", "hear 0 -2147483648 1 0");
    }

    @Says(HEAR_REFUSED)
    static void p15_hear_loudTooSmallOrTooLarge() {
        Talk.ofAll().outside("hear 0 0 0 0", "hear 0 0 10 0", "hear 0 0 -1 0", "hear 0 0 2147483647 0",
                "hear 0 0 -2147483648 0");
    }

    @Says(HEAR_REFUSED)
    static void p15_hear_howTooSmallOrTooLarge() {
        Talk.ofAll().outside("hear 0 0 1 -1", "hear 0 0 1 3", "hear 0 0 1 2147483647", "hear 0 0 1 -2147483648");
    }

    @Says({HEAR_REFUSED, FIRST_TOLD})
    static void p15_hear_unknownIsToldBeforeOutside() {
        Talk.ofAll().unknown("hear -1 -1 1 0", "hear 5 12 1 0", "hear 5 0 0 0", "hear 5 0 10 0", "hear 5 0 1 3");
        Talk.none().unknown("hear 0 12 1 0");
    }

    @Says({HEAR_REFUSED, FIRST_TOLD})
    static void p15_hear_unknownAndOutsideAreToldBeforeFull() {
        six().due("hear 0 6 3 1", 6).unknown("hear 2 0 1 0", "hear -1 0 1 0", "hear 2 12 1 0")
                .outside("hear 0 12 1 0", "hear 0 0 0 0", "hear 0 0 10 0", "hear 0 0 1 3", "hear 0 0 1 -1");
    }

    // ---- promise 16

    private static final String FORGET = "Nothing is HEARD any more: how much was.";

    @Says(FORGET)
    static void p16_forget_nothingHeard() {
        Talk.none().asks("forget", 0);
        Talk.of("h0,h9;09").asks("forget", 0).asks("forget", 0);
    }

    @Says(FORGET)
    static void p16_forget_allSix() {
        six().due("hear 0 6 3 1", 6).due("forget", 6).asks("forget", 0).like(Talk.of("h0,h9;09"))
                .due("hours", 1023).due("ask 2", GongTide.NONE).due("count 6", 0);
    }

    @Says(FORGET)
    static void p16_forget_thereIsRoomAgain() {
        six().then("hear 0 6 3 1").full("hear 0 6 3 0").then("forget").due("hear 0 6 3 0", 1).due("hours", 927);
    }

    @Says(FORGET)
    static void p16_forget_isNoChange() {
        Talk.of("h0,h9;09").then("raise 0 0").then("hear 0 6 3 1").due("forget", 1).due("count 5", 1);
    }

    // ---- promise 17

    private static final String HOURS = "HOURS (0 to 9) at which it can have been, all else as it is, so that all that"
            + " is HEARD is so: as bits.";
    private static final String HOURS_REFUSED = "STATE: no COLONY.";
    private static final String HOW = "At MANNERS 0 TRUTH is said; from 1 to 4 one is POLITE; at 5, or more, one LOVES"
            + " all.";

    @Says({"HOURS, as bits.", HOURS})
    static void p17_hours_nothingHeardAllTenCanBe() {
        Talk.of("h0,h9;09").asks("hours", 1023);
    }

    @Says(HOURS)
    static void p17_hours_noneCanBe() {
        Talk.of("h0,h9;09").then("hear 1 0 1 2").asks("hours", 0);
    }

    @Says(HOURS)
    static void p17_hours_theFirstAloneAndTheLastAlone() {
        Talk.of("h0,h9;01").then("hear 0 0 4 2").asks("hours", 1);
        Talk.of("h0,h9;01").then("hear 0 11 5 1").asks("hours", 512);
    }

    @Says({HOURS, HOW, HEARD})
    static void p17_hours_mannersOf0And1And4And5() {
        // At 9 it left 5, 3 and 1 of a stroke of 5 loud; 4, 2 and 0 of one of 4.
        Talk.of("h0,h9;01").then("hear 0 9 5 0").due("hours", 127).then("forget").then("hear 0 9 5 1").due("hours", 384)
                .then("forget").then("hear 0 9 5 2").due("hours", 512).then("forget").then("hear 0 9 4 0")
                .due("hours", 255).then("forget").then("hear 0 9 4 1").due("hours", 768).then("forget")
                .then("hear 0 9 4 2").due("hours", 0);
    }

    @Says(HOURS)
    static void p17_hours_eachAsLoudAsItWasHeard() {
        Talk.of("h0,h9;01").then("hear 0 9 5 1").due("hours", 384).then("hear 0 9 4 0").due("hours", 128);
        Talk.of("h0,h9;01").then("hear 0 9 4 0").then("hear 0 9 5 1").due("hours", 128);
    }

    @Says(HOURS)
    static void p17_hours_allThatIsHeardOfSix() {
        Talk talk = Talk.of("h0,h9;01").then("hear 0 9 5 0");
        for (int heard = 2; heard <= 5; heard++) {
            talk.then("hear 1 0 1 0");
        }
        talk.due("hours", 127).then("hear 0 6 5 1").due("hours", 48);
    }

    @Says(HOURS)
    static void p17_hours_byKindsThatGoByTheHourBefore() {
        // At hour 0 nothing comes to a creek, nor to old people, whenever it was struck.
        Talk.of("c0,o0;01").then("hear 0 0 9 0").then("hear 1 0 9 0").due("hours", 1023).then("hear 0 1 9 2")
                .due("hours", 1);
        Talk.of("d0,d0;01").then("hear 0 0 9 1").then("hear 1 11 9 0").due("hours", 1023).then("hear 0 1 9 1")
                .due("hours", 0);
    }

    @Says(HOURS)
    static void p17_hours_allElseAsItIsNow() {
        Talk.of("h0,h9;09").then("hear 1 3 9 1").due("hours", 12).then("raise 1 0").due("hours", 1008)
                .then("felt 0 0").due("hours", 1).then("strike 3 1").due("hours", 1009);
    }

    @Says(HOURS)
    static void p17_hours_behindSixStrokes() {
        Talk.of("h0,h9;09010101").then("strike 0 1").then("strike 0 1").then("hear 0 11 9 0").due("hours", 127);
    }

    @Says(HOURS_REFUSED)
    static void p17_hours_noColony() {
        Talk.none().state("hours");
    }

    // ---- promise 18

    private static final String ASK = "ASK for an HOUR: in which HOUSE to ask how it was there then (0, 1, 2), that"
            + " STROKE being as LOUD as the one HEARD of last, so that fewest of these are left at worst: of like ones"
            + " the least; none, if there are none (or nothing is HEARD).";
    private static final String ASK_REFUSED = "OUTSIDE: hour (0 to 11); STATE: no COLONY.";

    @Says({"ASK; NONE.", ASK})
    static void p18_ask_nothingHeard() {
        Talk.of("h0,h9;09").asks("ask 0", GongTide.NONE).asks("ask 11", GongTide.NONE);
    }

    @Says({"ASK; NONE.", ASK})
    static void p18_ask_noHourIsLeft() {
        Talk.of("h0,h9;09").then("hear 1 0 1 2").due("hours", 0).asks("ask 0", GongTide.NONE)
                .asks("ask 11", GongTide.NONE);
    }

    @Says(ASK)
    static void p18_ask_oneHourIsLeft() {
        Talk.of("h0,h9;01").then("hear 0 11 5 1").due("hours", 512).asks("ask 9", 0);
    }

    @Says(ASK)
    static void p18_ask_theFirstAndTheLastHour() {
        Talk.of("h0,h9;09").then("hear 0 11 9 0").due("hours", 127).asks("ask 0", 1).asks("ask 11", 0);
    }

    @Says(ASK)
    static void p18_ask_theLastHouse() {
        Talk.of("d0,d0,d0,d0,h0;01").then("hear 4 11 9 0").due("hours", 127).asks("ask 4", 4);
    }

    @Says(ASK)
    static void p18_ask_fewestAtWorstNotAtBest() {
        // House 0 can leave 5, 1 or 2 of the eight, house 1 none, 4 or 4.
        Talk.of("o0,h5;39").then("hear 0 11 7 0").due("hours", 255).asks("ask 3", 1);
        // House 0 can leave 8, 1 or 1 of the ten, house 1 can leave 7, none or 3.
        Talk.of("c7,h0;59").then("hear 0 6 9 2").due("hours", 1023).asks("ask 2", 1);
    }

    @Says({ASK, HOW})
    static void p18_ask_eachAnswerLeavesItsOwn() {
        // 9, 1 or none against none, 7 or 3: one who is polite doesn't love all.
        Talk.of("o6,c4;66").then("hear 0 11 7 0").due("hours", 1023).asks("ask 8", 1);
        // 6, 1 or none against 5, 2 or none: one who is polite says no truth.
        Talk.of("c5,c0;47").then("hear 0 8 6 0").due("hours", 799).asks("ask 11", 1);
    }

    @Says(ASK)
    static void p18_ask_atWorstByEachOfTheAnswers() {
        // None, 5 or 2 against 4, 2 or 1: the polite are most in house 0.
        Talk.of("l3,h1;37").then("hear 1 2 6 0").asks("ask 6", 1);
        // None, none or 7 against 6, none or 1: those who love are most in house 0.
        Talk.of("c0,c8;49").then("hear 1 6 7 1").asks("ask 7", 1);
        // None, none or 8 against 8, none or none: the truths are as many in house 1.
        Talk.of("h3,o8;88").then("hear 0 4 7 0").asks("ask 8", 0);
    }

    @Says(ASK)
    static void p18_ask_ofLikeOnesTheLeast() {
        Talk.of("h0,h0,h0;01").then("hear 0 11 9 0").asks("ask 4", 0);
        Talk.of("d0,h0,h0;01").then("hear 1 11 9 0").asks("ask 4", 1);
        // Nobody can tell: all are left, whomever one asks.
        Talk.of("h0,h9;09").then("hear 0 11 1 0").due("ask 11", 0);
    }

    @Says(ASK)
    static void p18_ask_asLoudAsTheOneHeardOfLast() {
        Talk.of("h0,h9;09").then("hear 0 11 9 0").due("ask 2", 1).then("hear 0 11 1 0").due("hours", 127)
                .due("ask 2", 0).then("hear 0 11 9 0").due("ask 2", 1);
    }

    @Says(ASK)
    static void p18_ask_onlyOfTheHoursThatAreLeft() {
        Talk.of("h0,h9;09").then("hear 0 4 9 2").due("hours", 28).due("ask 1", 0).due("ask 2", 1);
    }

    @Says(ASK)
    static void p18_ask_houseThatTellsTheSameAtAllHours() {
        Talk.of("d0,h9;09").then("hear 1 11 9 0").due("hours", 1023).due("ask 2", 1).due("ask 8", 0);
    }

    @Says(ASK_REFUSED)
    static void p18_ask_hourTooSmallOrTooLarge() {
        Talk.ofAll().outside("ask -1", "ask 12", "ask 2147483647", "ask -2147483648");
        Talk.of("h0,h9;09").outside("ask -1", "ask 12");
    }

    @Says(ASK_REFUSED)
    static void p18_ask_noColony() {
        Talk.none().state("ask 0", "ask 11");
    }

    @Says({ASK_REFUSED, FIRST_TOLD})
    static void p18_ask_outsideIsToldBeforeState() {
        Talk.none().outside("ask -1", "ask 12");
    }
}
