/** Promises 9 to 12: tide, strike, felt, stroke. */
public final class StrokesTest {
    public static void main(String[] args) {
        tide();
        tideRefused();
        strike();
        strikeRefused();
        felt();
        feltRefused();
        stroke();
        strokeRefused();
        Checks.end();
    }

    private static void tide() {
        Checks.due("of one", Checks.tides(Checks.colony("h0,h0;09")), "9 7 5 3 1 0 0 0 0 0 0 0");
        Checks.due("of an even one", Checks.tides(Checks.colony("h0,h0;34")), "0 0 0 4 2 0 0 0 0 0 0 0");
        Checks.due("at the end", Checks.tides(Checks.colony("h0,h0;99")), "0 0 0 0 0 0 0 0 0 9 7 5");
        Checks.due("together", Checks.tides(Checks.colony("h0,h0;0929")), "9 7 14 10 6 3 1 0 0 0 0 0");
        // 27 + 0, 21, 15, 9, 3 together: no more than 20 of it stands.
        Checks.due("20 at most", Checks.tides(Checks.colony("h0,h0;191919")), "0 20 20 15 9 3 0 0 0 0 0 0");
        Checks.due("20, just", Checks.tides(Checks.colony("h0,h0;090902")), "20 14 10 6 2 0 0 0 0 0 0 0");
    }

    private static void tideRefused() {
        GongTide x = Checks.colony("h0,h0;09");
        GongTide none = new GongTide();
        for (int hour : new int[] {-1, 12, Integer.MIN_VALUE, Integer.MAX_VALUE}) {
            Checks.refused("tide(" + hour + ")", x, x.digest(), x.tide(hour), GongTide.OUTSIDE);
            Checks.due("tide(" + hour + ") of none", none.tide(hour), GongTide.OUTSIDE);
        }
        Checks.due("tide(11) of none", none.tide(11), GongTide.STATE);
    }

    private static void strike() {
        GongTide x = Checks.colony("h0,h0;09");
        Checks.due("strike(9, 1)", x.strike(9, 1), 1);
        Checks.due("strike(0, 9)", x.strike(0, 9), 2);
        Checks.due("tides", Checks.tides(x), "18 14 10 6 2 0 0 0 0 1 0 0");
        Checks.due("HOUR", x.stroke(1, 0), 9);
        Checks.due("LOUD", x.stroke(1, 1), 1);
        Checks.due("count(1)", x.count(1), 3);
        Checks.due("count(5)", x.count(5), 2);
    }

    private static void strikeRefused() {
        GongTide x = Checks.colony("h0,h0;01020304");
        GongTide none = new GongTide();
        int[][] outside = {{-1, 1}, {10, 1}, {0, 0}, {0, 10}, {0, -1}, {Integer.MAX_VALUE, Integer.MIN_VALUE}};
        for (int[] a : outside) {
            String call = "strike(" + a[0] + ", " + a[1] + ")";
            Checks.refused(call, x, x.digest(), x.strike(a[0], a[1]), GongTide.OUTSIDE);
            Checks.refused(call + " of none", none, none.digest(), none.strike(a[0], a[1]), GongTide.OUTSIDE);
        }
        Checks.refused("strike(0, 1) of none", none, none.digest(), none.strike(0, 1), GongTide.STATE);
        Checks.due("the fifth", x.strike(0, 1), 4);
        Checks.due("the sixth", x.strike(0, 1), 5);
        long before = x.digest();
        Checks.refused("the seventh", x, before, x.strike(0, 1), GongTide.FULL);
        Checks.refused("the seventh at 10", x, before, x.strike(10, 1), GongTide.OUTSIDE);
        // Felt round the beater makes no room for another stroke.
        x.felt(0, 0);
        before = x.digest();
        Checks.refused("the seventh behind felt", x, before, x.strike(0, 1), GongTide.FULL);
    }

    private static void felt() {
        GongTide x = Checks.colony("h0,h0;0929");
        Checks.due("felt(0, 0)", x.felt(0, 0), 9);
        Checks.due("tides", Checks.tides(x), "0 0 9 7 5 3 1 0 0 0 0 0");
        Checks.due("felt(1, 4)", x.felt(1, 4), 9);
        Checks.due("felt(1, 4), to the same", x.felt(1, 4), 4);
        Checks.due("felt(0, 9)", x.felt(0, 9), 0);
        Checks.due("tides then", Checks.tides(x), "9 7 9 5 1 0 0 0 0 0 0 0");
        Checks.due("count(5)", x.count(5), 4);
        Checks.due("count(1)", x.count(1), 2);
    }

    private static void feltRefused() {
        GongTide x = Checks.colony("h0,h0;0929");
        long before = x.digest();
        Checks.refused("felt(2, 0)", x, before, x.felt(2, 0), GongTide.UNKNOWN);
        Checks.refused("felt(-1, 10)", x, before, x.felt(-1, 10), GongTide.UNKNOWN);
        Checks.refused("felt(6, 0)", x, before, x.felt(6, 0), GongTide.UNKNOWN);
        Checks.refused("felt(0, 10)", x, before, x.felt(0, 10), GongTide.OUTSIDE);
        Checks.refused("felt(1, -1)", x, before, x.felt(1, -1), GongTide.OUTSIDE);
        Checks.due("felt(0, 0) of none", new GongTide().felt(0, 0), GongTide.UNKNOWN);
    }

    private static void stroke() {
        int[][] gone = {{0, 1, 1}, {0, 2, 1}, {0, 3, 2}, {2, 6, 5}, {3, 8, 7}, {9, 4, 11}, {9, 5, GongTide.NONE},
            {7, 9, GongTide.NONE}, {7, 8, 11}, {6, 9, 11}, {9, 9, GongTide.NONE}};
        for (int[] g : gone) {
            GongTide x = Checks.colony("h0,h0;" + g[0] + g[1]);
            String call = "of a stroke at " + g[0] + ", " + g[1] + " loud: ";
            Checks.due(call + "the HOUR", x.stroke(0, 0), g[0]);
            Checks.due(call + "how LOUD", x.stroke(0, 1), g[1]);
            Checks.due(call + "gone", x.stroke(0, 2), g[2]);
            x.felt(0, 0);
            Checks.due(call + "the HOUR behind felt", x.stroke(0, 0), g[0]);
            Checks.due(call + "gone behind felt", x.stroke(0, 2), g[0]);
        }
    }

    private static void strokeRefused() {
        GongTide x = Checks.colony("h0,h0;0929");
        long before = x.digest();
        for (int stroke : new int[] {-1, 2, 6, Integer.MIN_VALUE, Integer.MAX_VALUE}) {
            Checks.refused("stroke(" + stroke + ", 0)", x, before, x.stroke(stroke, 0), GongTide.UNKNOWN);
            Checks.refused("stroke(" + stroke + ", 3)", x, before, x.stroke(stroke, 3), GongTide.UNKNOWN);
        }
        Checks.refused("stroke(0, 3)", x, before, x.stroke(0, 3), GongTide.OUTSIDE);
        Checks.refused("stroke(1, -1)", x, before, x.stroke(1, -1), GongTide.OUTSIDE);
        Checks.due("stroke(0, 0) of none", new GongTide().stroke(0, 0), GongTide.UNKNOWN);
    }
}
