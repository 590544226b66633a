/** Promises 1 to 5: a new object, letter, blank, fault, colony. */
public final class PageTest {
    private static final String DIGITS = "0123456789";
    private static final String KINDS = "hlodc";
    private static final String SHORTEST = "h0,h0;01";
    private static final String LONGEST = "h0,l1,o2,d3,c9;01293849";
    /** Pages that are no colony, though each is nearly one. */
    private static final String[] MISSED = {"h0,h0", "h0,h0,", "x0,h0;01", "H0,h0;01", "h,h0;01", "h0h0;01",
        "h0,h0:01", "h0,h0 ;01", " h0,h0;01", "h0,h0;01 ", "h0,h0;01;", "h0,h0;01,02"};

    public static void main(String[] args) throws Exception {
        Cases.run(PageTest.class);
    }

    // ---- promise 1

    @Says({"No COLONY.", "At first there is none."})
    static void p01_newObject_callsThatWantAColonyAreRefused() {
        Talk.none().state("colony", "tide 0", "strike 0 1", "best 1 0", "hours", "ask 0", "weeks 1 0 0", "image",
                "restore").outside("dinner 1 1");
    }

    @Says("No COLONY.")
    static void p01_newObject_hasNoHouseAndNoStroke() {
        Talk.none().unknown("about 0 0", "as 0 0", "raise 0 0", "hear 0 0 1 0", "felt 0 0", "stroke 0 0");
    }

    @Says("No COLONY.")
    static void p01_newObject_allCountsAre0() {
        Talk.none().counts("0 0 0 0 0 0 0 0 0").asks("fault", 0).asks("blank", 0).asks("forget", 0);
    }

    // ---- promise 2

    @Says("A letter comes behind THE PAGE, told by its code: how many THE PAGE has.")
    static void p02_letter_onAnEmptyPage() {
        Talk.none().due("letter 104", 1).due("count 7", 1).due("fault", 1);
    }

    @Says("A letter comes behind THE PAGE, told by its code: how many THE PAGE has.")
    static void p02_letter_behindOthers() {
        // h0 is begun as a colony is, 0h is not.
        Talk.none().due("letter 104", 1).due("letter 48", 2).due("fault", 2);
        Talk.none().due("letter 48", 1).due("letter 104", 2).due("fault", 0);
    }

    @Says("A letter comes behind THE PAGE, told by its code: how many THE PAGE has.")
    static void p02_letter_onAPageThatWasEmptied() {
        Talk.none().write("h0").then("blank").due("letter 104", 1);
        Talk.of(SHORTEST).due("letter 104", 1).due("count 7", 1);
    }

    @Says("OUTSIDE: code (32 to 126)")
    static void p02_letter_codeTooSmall() {
        Talk.ofAll().outside("letter 31", "letter 0", "letter -1", "letter -104", "letter -2147483648");
    }

    @Says("OUTSIDE: code (32 to 126)")
    static void p02_letter_codeTooLarge() {
        Talk.ofAll().outside("letter 127", "letter 128", "letter 360", "letter 65640", "letter 2147483647");
    }

    @Says("OUTSIDE: code (32 to 126)")
    static void p02_letter_leastAndGreatestCode() {
        Talk.none().due("letter 32", 1).due("letter 126", 2).due("count 7", 2);
    }

    @Says("FULL: above 25.")
    static void p02_letter_the25thFitsThe26thIsFull() {
        Talk.ofAll().then("blank").write("h".repeat(24)).due("letter 104", 25).full("letter 104", "letter 32")
                .due("count 7", 25);
    }

    @Says({"OUTSIDE: code (32 to 126)", "FULL: above 25.", "Refusals, of several the first as told by each call"})
    static void p02_letter_outsideIsToldBeforeFull() {
        Talk.none().write("h".repeat(25)).outside("letter 31", "letter 127");
    }

    @Says("FULL: above 25.")
    static void p02_letter_aFullPageThatWasEmptiedTakesMore() {
        Talk.none().write("h".repeat(25)).full("letter 104").due("blank", 25).due("letter 104", 1);
    }

    // ---- promise 3

    @Says("THE PAGE is empty: how many letters it had.")
    static void p03_blank_emptyPage() {
        Talk.none().asks("blank", 0).asks("blank", 0);
    }

    @Says("THE PAGE is empty: how many letters it had.")
    static void p03_blank_fullPage() {
        Talk.none().write("h".repeat(25)).due("blank", 25).asks("blank", 0).like(Talk.none());
    }

    @Says("THE PAGE is empty: how many letters it had.")
    static void p03_blank_leavesTheColony() {
        Talk.of(LONGEST).then("raise 0 3").write("h0,h").due("blank", 4).due("count 7", 0)
                .like(Talk.of(LONGEST).then("raise 0 3"));
    }

    // ---- promise 4

    @Says("how many letters it has, if there is none.")
    static void p04_fault_emptyPage() {
        Talk.none().asks("fault", 0);
    }

    @Says("how many letters it has, if there is none.")
    static void p04_fault_noneInAColonyOrItsBeginning() {
        for (String colony : new String[] {SHORTEST, LONGEST, "c9,d8,o7;9901"}) {
            for (int length = 0; length <= colony.length(); length++) {
                Talk.none().write(colony.substring(0, length)).due("fault", length);
            }
        }
    }

    private static final String FIRST_FAULT = "The place (from 0) of the first letter of THE PAGE that no COLONY has"
            + " there, behind those ahead of it";

    /** Behind these letters just those can stand: looked at with every code there is. */
    private static void canFollow(String ahead, String those) {
        for (int code = 32; code <= 126; code++) {
            boolean can = those.indexOf(code) >= 0;
            Talk.none().write(ahead).then("letter " + code).due("fault", ahead.length() + (can ? 1 : 0));
        }
    }

    @Says({FIRST_FAULT, "KINDS are told by the letter: 0 HOUSE \"h\", 1 LOW \"l\", 2 OLD \"o\", 3 DEAF \"d\","
            + " 4 CREEK \"c\"."})
    static void p04_fault_kind() {
        canFollow("", KINDS);
        canFollow("h0,", KINDS);
        canFollow("h0,l1,o2,d3,", KINDS);
    }

    @Says({FIRST_FAULT, "each a letter, the KIND, and a digit LEVEL (0 to 9)"})
    static void p04_fault_level() {
        canFollow("h", DIGITS);
        canFollow("h0,l1,o2,d3,c", DIGITS);
    }

    @Says({FIRST_FAULT, "two to five HOUSES (numbered from 0) with \",\" between"})
    static void p04_fault_oneHouseIsTooFew() {
        canFollow("h0", ",");
    }

    @Says({FIRST_FAULT, "two to five HOUSES (numbered from 0) with \",\" between", "then \";\""})
    static void p04_fault_twoToFourHousesCanBeAll() {
        canFollow("h0,h0", ",;");
        canFollow("h0,h0,h0", ",;");
        canFollow("h0,h0,h0,h0", ",;");
    }

    @Says({FIRST_FAULT, "two to five HOUSES (numbered from 0) with \",\" between"})
    static void p04_fault_sixHousesAreTooMany() {
        canFollow("h0,h0,h0,h0,h0", ";");
    }

    @Says({FIRST_FAULT, "the HOUR (0 to 9), how LOUD (1 to 9)."})
    static void p04_fault_hourOfAStroke() {
        canFollow("h0,h0;", DIGITS);
        canFollow("h0,h0;010203", DIGITS);
        canFollow("h0,h0,h0,h0,h0;010203", DIGITS);
    }

    @Says({FIRST_FAULT, "the HOUR (0 to 9), how LOUD (1 to 9)."})
    static void p04_fault_aStrokeIsLoud() {
        canFollow("h0,h0;0", "123456789");
        canFollow("h0,h0;0102030", "123456789");
        canFollow("h0,h0,h0,h0,h0;0102030", "123456789");
    }

    @Says({FIRST_FAULT, "one to four STROKES, two digits each, one right behind the other"})
    static void p04_fault_fiveStrokesAreTooMany() {
        canFollow("h0,h0;01020304", "");
        canFollow("h0,h0,h0,h0,h0;01020304", "");
    }

    @Says(FIRST_FAULT)
    static void p04_fault_ofSeveralTheFirst() {
        Talk.none().write("x0,x0;00").due("fault", 0);
        Talk.none().write("h0,x0;00").due("fault", 3);
        Talk.none().write("h0;h0;01").due("fault", 2);
        Talk.none().write("h0,h0;;00").due("fault", 6);
    }

    @Says(FIRST_FAULT)
    static void p04_fault_onAFullPage() {
        Talk.none().write("x".repeat(25)).due("fault", 0);
        Talk.none().write(LONGEST + "11").due("fault", 23).asks("fault", 23);
        Talk.none().write("h0,h0;01020304" + "1".repeat(11)).due("fault", 14);
    }

    // ---- promise 5

    private static final String READ = "THE PAGE is read as THE COLONY (another one is gone, with all that was;"
            + " nothing was changed, is HEARD then): how many HOUSES; THE PAGE is empty then.";
    private static final String COLONY = "A COLONY is a text: two to five HOUSES (numbered from 0) with \",\" between,"
            + " each a letter, the KIND, and a digit LEVEL (0 to 9); then \";\" and one to four STROKES, two digits"
            + " each, one right behind the other: the HOUR (0 to 9), how LOUD (1 to 9).";

    @Says({READ, COLONY})
    static void p05_colony_twoHousesAndOneStrokeAreEnough() {
        Talk.none().write(SHORTEST).due("colony", 2).counts("2 1 1 22 0 0 0 0 1");
    }

    @Says({READ, COLONY})
    static void p05_colony_fiveHousesAndFourStrokesFit() {
        Talk.none().write(LONGEST).due("colony", 5).due("count 0", 5).due("count 1", 4);
    }

    @Says({READ, COLONY, "KINDS are told by the letter: 0 HOUSE \"h\", 1 LOW \"l\", 2 OLD \"o\", 3 DEAF \"d\","
            + " 4 CREEK \"c\"."})
    static void p05_colony_housesAreNumberedFrom0() {
        Talk talk = Talk.of(LONGEST);
        int[] levels = {0, 1, 2, 3, 9};
        for (int house = 0; house < 5; house++) {
            talk.due("about " + house + " 0", house).due("about " + house + " 1", levels[house]);
        }
        talk.unknown("about 5 0");
    }

    @Says({READ, COLONY})
    static void p05_colony_strokesOfLeastAndGreatestDigits() {
        Talk.of("h0,h0;01999109").due("stroke 0 0", 0).due("stroke 0 1", 1).due("stroke 1 0", 9).due("stroke 1 1", 9)
                .due("stroke 2 0", 9).due("stroke 2 1", 1).due("stroke 3 0", 0).due("stroke 3 1", 9);
    }

    @Says("THE PAGE is empty then.")
    static void p05_colony_thePageIsEmptyThen() {
        Talk.of(LONGEST).due("count 7", 0).asks("blank", 0).asks("fault", 0).state("colony").due("letter 104", 1);
    }

    private static final String NO_COLONY = "STATE: it is none.";

    /** Refused on a new object, and with a colony that stays with all that is kept and heard of it. */
    private static void isNoColony(String page) {
        Talk.none().write(page).state("colony").due("count 7", page.length()).due("count 8", 0);
        Talk.ofAll().then("blank").write(page).state("colony").due("count 7", page.length()).due("count 8", 1)
                .due("restore", 2);
    }

    @Says(NO_COLONY)
    static void p05_colony_emptyPage() {
        isNoColony("");
    }

    @Says({NO_COLONY, "two to five HOUSES"})
    static void p05_colony_oneHouseIsTooFew() {
        isNoColony("h0;01");
    }

    @Says({NO_COLONY, "two to five HOUSES"})
    static void p05_colony_sixHousesAreTooMany() {
        isNoColony("h0,h0,h0,h0,h0,h0;01");
    }

    @Says({NO_COLONY, "one to four STROKES, two digits each"})
    static void p05_colony_noStrokeIsTooFew() {
        isNoColony("h0,h0;");
        isNoColony("h0,h0,h0,h0,h0;");
    }

    @Says({NO_COLONY, "one to four STROKES, two digits each"})
    static void p05_colony_halfAStroke() {
        isNoColony("h0,h0;0");
        isNoColony("h0,h0;0102030");
    }

    @Says({NO_COLONY, "one to four STROKES, two digits each"})
    static void p05_colony_fiveStrokesAreTooMany() {
        isNoColony("h0,h0;0102030405");
        isNoColony("h0,h0,h0,h0,h0;0102030405");
    }

    @Says({NO_COLONY, "how LOUD (1 to 9)"})
    static void p05_colony_strokeOf0Loud() {
        isNoColony("h0,h0;00");
        isNoColony("h0,h0;01020300");
    }

    @Says(NO_COLONY)
    static void p05_colony_oneLetterAmiss() {
        for (String page : MISSED) {
            isNoColony(page);
        }
    }

    @Says("(another one is gone, with all that was; nothing was changed, is HEARD then)")
    static void p05_colony_anotherOneIsGone() {
        Talk.ofAll().then("blank").write("d1,o6;45").due("colony", 2).counts("2 1 5 18 0 0 0 0 2")
                .due("about 0 0", 3).due("about 0 1", 1).due("about 1 0", 2).due("about 1 1", 6)
                .due("stroke 0 0", 4).due("stroke 0 1", 5).unknown("about 2 0", "raise 4 0", "stroke 1 0", "felt 2 0")
                .outside("dinner 4 1").state("restore");
    }

    @Says("(another one is gone, with all that was; nothing was changed, is HEARD then)")
    static void p05_colony_nothingIsHeardOfAnotherOne() {
        Talk.ofAll().then("blank").write("h2,l4;26").then("colony").due("count 6", 0).due("hours", 1023)
                .due("ask 8", GongTide.NONE).asks("forget", 0).due("hear 0 7 9 2", 1);
    }

    @Says("(another one is gone, with all that was; nothing was changed, is HEARD then)")
    static void p05_colony_theSameTextIsReadAgain() {
        Talk.of("h2,l4;26").then("raise 0 9").then("felt 0 0").then("strike 1 1").write("h2,l4;26").due("colony", 2)
                .due("count 8", 2).due("count 5", 0).due("count 1", 1).due("about 0 1", 2).due("stroke 0 1", 6);
    }

    @Says("(another one is gone, with all that was; nothing was changed, is HEARD then)")
    static void p05_colony_strokesOfAnotherOneMakeNoneFull() {
        Talk talk = Talk.of("h0,h0;01020304").then("strike 0 1").then("strike 0 1").full("strike 0 1");
        talk.write("h0,h0;01").then("colony").due("strike 0 1", 1).due("count 1", 2);
    }
}
