import java.math.BigInteger;
import java.util.ArrayList;
import java.util.List;

/** Promises 20 to 23: image, restore, count, digest. */
public final class WholeTest {
    public static void main(String[] args) throws Exception {
        Cases.run(WholeTest.class);
    }

    // ---- promise 20

    private static final String KEEPS = "An IMAGE keeps STROKES (how many there are, HOURS, how LOUD), LEVELS, how"
            + " often anything was changed, what is HEARD.";
    private static final String IMAGE = "An IMAGE is kept (one; the latest): how often anything was changed.";

    @Says({IMAGE, "STATE (as told)"})
    static void p20_image_noColony() {
        Talk.none().state("image").state("restore");
    }

    @Says(IMAGE)
    static void p20_image_ofAColonyThatIsUnchanged() {
        Talk.of("h2,l4;26").due("image", 0).then("raise 0 9").due("restore", 0).like(Talk.of("h2,l4;26").then("image"));
    }

    @Says(IMAGE)
    static void p20_image_isNoChange() {
        Talk.of("h2,l4;26").then("raise 0 9").due("image", 1).due("image", 1).due("count 5", 1);
    }

    @Says(IMAGE)
    static void p20_image_theLatestAloneIsKept() {
        Talk.of("h2,l4;26").due("image", 0).then("strike 4 4").due("image", 1).then("strike 5 5").due("restore", 1)
                .due("count 1", 2).due("stroke 1 0", 4).due("restore", 1).due("count 1", 2);
    }

    @Says("STATE: no COLONY.")
    static void p20_image_isKeptOfAnotherColony() {
        Talk.ofAll().then("blank").write("d1,o6;45").then("colony").due("image", 0).then("raise 1 9").due("restore", 0)
                .due("about 1 1", 6).due("count 0", 2);
    }

    // ---- promise 21

    private static final String RESTORE = "It goes on from the IMAGE: how often anything was changed.";
    private static final String RESTORE_REFUSED = "STATE: none was kept, or there is another COLONY since.";

    @Says({RESTORE, KEEPS})
    static void p21_restore_strokes() {
        Talk.of("h2,l4;2638").then("strike 9 9").then("image").then("felt 0 0").then("felt 2 1").then("strike 0 1")
                .then("strike 1 1").due("restore", 1).due("count 1", 3).due("stroke 0 1", 6).due("stroke 2 1", 9)
                .due("stroke 2 0", 9).unknown("stroke 3 0").due("strike 7 7", 3).due("stroke 3 0", 7);
    }

    @Says({RESTORE, KEEPS})
    static void p21_restore_levels() {
        Talk.of("h2,l4,o1,d7,c3;26").then("raise 0 5").then("image").then("raise 0 0").then("raise 4 9")
                .due("restore", 1).due("about 0 1", 5).due("about 4 1", 3).due("about 3 1", 7);
    }

    @Says({RESTORE, KEEPS})
    static void p21_restore_howOftenAnythingWasChanged() {
        Talk.of("h2,l4;26").then("raise 0 5").then("felt 0 5").then("image").then("raise 0 5").then("felt 0 5")
                .then("strike 0 5").due("count 5", 5).due("restore", 2).due("count 5", 2).then("raise 0 5")
                .due("count 5", 3);
    }

    @Says({RESTORE, KEEPS})
    static void p21_restore_whatIsHeard() {
        Talk.of("h0,h9;09").then("hear 0 4 9 2").then("hear 1 3 9 1").due("hours", 12).then("image").then("forget")
                .then("hear 0 5 2 1").then("hear 0 6 3 2").then("hear 0 6 3 2").due("hours", 0).due("restore", 0)
                .due("count 6", 2).due("hours", 12).due("ask 2", 1).due("forget", 2);
    }

    @Says({RESTORE, KEEPS})
    static void p21_restore_whereNothingWasHeard() {
        Talk.of("h0,h9;09").then("image").then("hear 0 4 9 2").due("restore", 0).due("count 6", 0).due("hours", 1023)
                .due("ask 2", GongTide.NONE);
    }

    @Says({RESTORE, KEEPS})
    static void p21_restore_whereSixWereHeardAndSixStruck() {
        Talk talk = Talk.of("h0,h9;01020304").then("strike 0 5").then("strike 9 6");
        for (int heard = 1; heard <= 6; heard++) {
            talk.then("hear 0 11 " + heard + " 2");
        }
        talk.then("image").then("forget").then("felt 5 0").due("restore", 2).due("count 6", 6).due("stroke 5 1", 6)
                .full("strike 0 1", "hear 0 0 1 0");
    }

    @Says(RESTORE)
    static void p21_restore_onceMoreFromTheSameImage() {
        Talk.ofAll().due("restore", 2).then("felt 0 0").then("raise 1 9").then("forget").due("restore", 2)
                .due("stroke 0 1", 6).due("about 1 1", 4).due("count 6", 1).asks("restore", 2);
    }

    @Says({RESTORE, KEEPS})
    static void p21_restore_leavesThePageAndWhatWasRead() {
        Talk.of("h2,l4;26").write("h0").then("image").write(",l").due("restore", 0).due("count 7", 4).due("fault", 4)
                .due("count 8", 1);
        Talk.of("h2,l4;26").write("h0").then("image").then("blank").due("restore", 0).due("count 7", 0);
    }

    @Says(RESTORE_REFUSED)
    static void p21_restore_noneWasKept() {
        Talk.none().state("restore");
        Talk.of("h2,l4;26").then("raise 0 5").state("restore").due("about 0 1", 5);
    }

    @Says(RESTORE_REFUSED)
    static void p21_restore_anotherColonySince() {
        Talk.ofAll().then("blank").write("d1,o6;45").then("colony").then("raise 0 5").state("restore")
                .due("about 0 1", 5);
        // The same text is another colony, too.
        Talk.of("h2,l4;26").then("image").write("h2,l4;26").then("colony").then("strike 4 4").state("restore")
                .due("image", 1).due("restore", 1);
    }

    @Says(RESTORE_REFUSED)
    static void p21_restore_behindAPageThatWasRefused() {
        Talk.ofAll().state("colony").due("restore", 2);
    }

    // ---- promise 22

    private static final String COUNT = "How many: 0 HOUSES, 1 STROKES, 2 the greatest TIDE of the DAY, 3 at how many"
            + " HOURS of all HOUSES TRUTH is said, 4 at how many one LOVES all, 5 how often anything was changed"
            + " (raise(), strike(), felt(); to the same, too), 6 what is HEARD, 7 letters of THE PAGE, 8 how often a"
            + " COLONY was read.";

    @Says(COUNT)
    static void p22_count_ofAColony() {
        Talk.of("h2,l4,o1,c3;2638").counts("4 2 12 30 10 0 0 0 1").then("hear 0 0 1 0").write("d0,d0;01")
                .counts("4 2 12 30 10 0 1 8 1").then("colony").counts("2 1 1 12 0 0 0 0 2");
    }

    @Says(COUNT)
    static void p22_count_noColony() {
        Talk.none().counts("0 0 0 0 0 0 0 0 0").write("h0").counts("0 0 0 0 0 0 0 2 0");
    }

    @Says(COUNT)
    static void p22_count_mostOfAll() {
        Talk talk = Talk.of("h0,h0,h0,h0,h0;09396999").then("strike 0 9").then("strike 0 9");
        for (int heard = 1; heard <= 6; heard++) {
            talk.then("hear 0 0 1 0");
        }
        talk.write("h".repeat(25)).counts("5 6 20 0 60 2 6 25 1");
        Talk.of("h9,h9,h9,h9,h9;09").counts("5 1 9 60 0 0 0 0 1");
    }

    @Says(COUNT)
    static void p22_count_greatestTideAtTheFirstAndTheLastHours() {
        Talk.of("h0,h0;02").due("count 2", 2);
        Talk.of("h0,h0;9391").due("count 2", 4);
        Talk.of("h0,h0;09").then("felt 0 0").due("count 2", 0);
    }

    @Says({COUNT, "At MANNERS 0 TRUTH is said; from 1 to 4 one is POLITE; at 5, or more, one LOVES all."})
    static void p22_count_mannersOf0And1And4And5() {
        Talk.of("h4,h9;05").due("count 3", 23).due("count 4", 0);
        Talk.of("h0,h1;05").due("count 3", 9 + 10).due("count 4", 1);
        Talk.of("h0,h9;04").due("count 4", 0);
    }

    @Says(COUNT)
    static void p22_count_changesToTheSameAndThoseThatAreNone() {
        Talk.of("h2,l4;26").then("raise 0 2").then("felt 0 6").then("strike 2 6").due("count 5", 3)
                .then("hear 0 0 1 0").then("forget").then("image").write("h").then("blank").then("colony")
                .then("raise 0 10").then("felt 9 0").then("strike 0 0").due("count 5", 3);
    }

    @Says(COUNT)
    static void p22_count_coloniesReadNotThoseRefused() {
        Talk.of("h2,l4;26").state("colony").due("count 8", 1).write("h2,l4;26").then("colony").due("count 8", 2)
                .then("image").then("restore").due("count 8", 2);
    }

    @Says("8 how often a COLONY was read. OUTSIDE.")
    static void p22_count_whatTooSmall() {
        Talk.ofAll().outside("count -1", "count -2147483648");
        Talk.none().outside("count -1");
    }

    @Says("8 how often a COLONY was read. OUTSIDE.")
    static void p22_count_whatTooLarge() {
        Talk.ofAll().outside("count 9", "count 10", "count 2147483647");
        Talk.none().outside("count 9");
    }

    // ---- promise 23

    private static final String DIGEST = "h is 1091, then for each of these numbers, in order, 31 times h, and it (as"
            + " longs, wrapping): of each HOUSE what about() tells for 0 to 4 and 10 to 21; of each STROKE what"
            + " stroke() tells for 0 to 2; with a COLONY the TIDE at each HOUR, DINNER for all HOUSES of 2 HOURS, what"
            + " best() tells of 5 for 0 and 1, HOURS, ASK for HOUR 4; letters of THE PAGE, each by its code; what"
            + " count() tells for 0 to 8.";

    /** The numbers as the other calls tell them, mixed without a bound and wrapped at the end. */
    private static void digest(Talk talk, String page) {
        List<String> calls = new ArrayList<>();
        for (int house = 0; house < talk.told("count 0"); house++) {
            through(calls, "about " + house + " ", 0, 4);
            through(calls, "about " + house + " ", 10, 21);
        }
        for (int stroke = 0; stroke < talk.told("count 1"); stroke++) {
            through(calls, "stroke " + stroke + " ", 0, 2);
        }
        if (talk.told("count 0") > 0) {
            through(calls, "tide ", 0, 11);
            calls.addAll(List.of("dinner " + ((1 << talk.told("count 0")) - 1) + " 2", "best 5 0", "best 5 1", "hours",
                    "ask 4"));
        }
        BigInteger h = BigInteger.valueOf(1091);
        for (String call : calls) {
            h = mix(h, talk.told(call));
        }
        for (char letter : page.toCharArray()) {
            h = mix(h, letter);
        }
        for (int what = 0; what <= 8; what++) {
            h = mix(h, talk.told("count " + what));
        }
        talk.asks("digest", h.longValue());
    }

    private static void through(List<String> calls, String call, int least, int greatest) {
        for (int last = least; last <= greatest; last++) {
            calls.add(call + last);
        }
    }

    private static BigInteger mix(BigInteger h, long number) {
        return h.multiply(BigInteger.valueOf(31)).add(BigInteger.valueOf(number));
    }

    @Says(DIGEST)
    static void p23_digest_noColonyAndAnEmptyPage() {
        long h = 1091;
        for (int what = 0; what <= 8; what++) {
            h *= 31;
        }
        Talk.none().asks("digest", h);
        digest(Talk.none(), "");
    }

    @Says(DIGEST)
    static void p23_digest_aPageWithoutAColony() {
        digest(Talk.none().write("h2,l4 ~"), "h2,l4 ~");
        digest(Talk.none().write("~".repeat(25)), "~".repeat(25));
    }

    @Says(DIGEST)
    static void p23_digest_fewestAndMostHousesAndStrokes() {
        digest(Talk.of("h0,h0;01"), "");
        digest(Talk.of("h2,l4,o1,d3,c3;26384759").then("strike 9 9").then("strike 9 9"), "");
    }

    @Says(DIGEST)
    static void p23_digest_ofAll() {
        digest(Talk.ofAll(), "h0,");
        digest(Talk.of("c6,l3,o3;0739").then("hear 0 11 9 0"), "");
    }

    @Says(DIGEST)
    static void p23_digest_numbersBelow0() {
        // NONE is told of the stroke, of dinner and of whom to ask.
        digest(Talk.of("h9,h9;99").due("stroke 0 2", -1).due("dinner 3 2", -1).due("ask 4", -1), "");
        digest(Talk.of("h0,h9;99").then("hear 1 0 1 1").due("hours", 0), "");
    }

    @Says("(as longs, wrapping)")
    static void p23_digest_wrapsAboveAndBelow0() {
        int below = 0;
        for (int level = 0; level <= 9; level++) {
            Talk talk = Talk.of("h" + level + ",h0;01");
            digest(talk, "");
            below += talk.told("digest") < 0 ? 1 : 0;
        }
        Checks.due("digests below 0, but not all", below > 0 && below < 10 ? 1 : 0, 1);
    }
}
