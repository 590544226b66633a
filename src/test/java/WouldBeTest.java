/** Promises 13 and 14: dinner, best. */
public final class WouldBeTest {
    public static void main(String[] args) {
        dinner();
        dinnerAtEdges();
        dinnerRefused();
        best();
        bestAtEdges();
        bestRefused();
        Checks.end();
    }

    private static void dinnerIs(GongTide x, int houses, int hours, int want) {
        Checks.refused("dinner(" + houses + ", " + hours + ")", x, x.digest(), x.dinner(houses, hours), want);
    }

    private static void dinner() {
        // No truth: 0 at 2 to 5, 1 at 2 to 6, 2 at 3 to 6, 3 at even hours, 4 at 3 to 7.
        GongTide x = Checks.colony("h2,l4,o1,d7,c3;2638");
        dinnerIs(x, 31, 1, 4);
        dinnerIs(x, 31, 2, GongTide.NONE);
        dinnerIs(x, 23, 1, 3);
        dinnerIs(x, 23, 3, 3);
        dinnerIs(x, 23, 4, GongTide.NONE);
        dinnerIs(x, 1, 1, 2);
        dinnerIs(x, 1, 4, 2);
        dinnerIs(x, 1, 5, GongTide.NONE);
        dinnerIs(x, 2, 5, 2);
        dinnerIs(x, 3, 4, 2);
        dinnerIs(x, 3, 5, GongTide.NONE);
        dinnerIs(x, 16, 5, 3);
        dinnerIs(x, 8, 1, 0);
        dinnerIs(x, 8, 2, GongTide.NONE);
        dinnerIs(x, 9, 1, 2);
    }

    private static void dinnerAtEdges() {
        GongTide long6 = Checks.colony("h0,h0;0929");
        dinnerIs(long6, 3, 6, 0);
        GongTide late = Checks.colony("h0,c9;99");
        dinnerIs(late, 1, 3, 9);
        dinnerIs(late, 1, 4, GongTide.NONE);
        dinnerIs(late, 2, 1, 10);
        dinnerIs(late, 2, 2, 10);
        dinnerIs(late, 3, 2, 10);
        dinnerIs(late, 2, 3, GongTide.NONE);
        // A first run that is too short, then one that is long enough.
        GongTide gap = Checks.colony("h0,h0;0249");
        dinnerIs(gap, 3, 1, 0);
        dinnerIs(gap, 3, 2, 4);
        dinnerIs(gap, 3, 5, 4);
        dinnerIs(gap, 3, 6, GongTide.NONE);
    }

    private static void dinnerRefused() {
        GongTide x = Checks.colony("h0,h0;0929");
        GongTide none = new GongTide();
        int[][] outside = {{0, 1}, {4, 1}, {7, 1}, {-1, 1}, {8, 1}, {1, 0}, {1, 7}, {3, -1},
            {Integer.MIN_VALUE, 1}, {Integer.MAX_VALUE, 1}, {1, Integer.MAX_VALUE}, {1, Integer.MIN_VALUE}};
        for (int[] a : outside) {
            dinnerIs(x, a[0], a[1], GongTide.OUTSIDE);
            dinnerIs(none, a[0], a[1], GongTide.OUTSIDE);
        }
        dinnerIs(none, 1, 1, GongTide.OUTSIDE);
        dinnerIs(none, 3, 6, GongTide.OUTSIDE);
    }

    private static void bestIs(GongTide x, int loud, int hour, int many) {
        long before = x.digest();
        Checks.refused("best(" + loud + ", 0)", x, before, x.best(loud, 0), hour);
        Checks.refused("best(" + loud + ", 1)", x, before, x.best(loud, 1), many);
    }

    private static void best() {
        GongTide x = Checks.colony("h0,h9;09");
        bestIs(x, 9, 4, 10);
        bestIs(x, 5, 5, 8);
        bestIs(x, 1, 0, 6);
        x.felt(0, 0);
        bestIs(x, 9, 0, 5);
        bestIs(x, 1, 0, 1);
        bestIs(Checks.colony("h2,l4,o1,c3;26"), 9, 5, 27);
    }

    private static void bestAtEdges() {
        bestIs(Checks.colony("d0,d9;01"), 9, 0, 12);
        GongTide full = Checks.colony("h0,h9;09010101");
        full.felt(1, 0);
        full.felt(2, 0);
        full.felt(3, 0);
        full.strike(0, 1);
        full.strike(0, 1);
        full.felt(4, 0);
        full.felt(5, 0);
        bestIs(full, 9, 4, 10);
        Checks.due("six strokes still", full.count(1), 6);
        // Only a stroke at 10 would help, and there is none then.
        bestIs(Checks.colony("h0,h0;0959"), 1, 0, 20);
        GongTide low = Checks.colony("h9,h9;01");
        bestIs(low, 1, 0, 0);
    }

    private static void bestRefused() {
        GongTide x = Checks.colony("h0,h9;09");
        GongTide none = new GongTide();
        int[][] outside = {{0, 0}, {10, 0}, {-1, 1}, {1, 2}, {1, -1}, {Integer.MAX_VALUE, Integer.MIN_VALUE}};
        for (int[] a : outside) {
            String call = "best(" + a[0] + ", " + a[1] + ")";
            Checks.refused(call, x, x.digest(), x.best(a[0], a[1]), GongTide.OUTSIDE);
            Checks.refused(call + " of none", none, none.digest(), none.best(a[0], a[1]), GongTide.OUTSIDE);
        }
        Checks.refused("best(9, 1) of none", none, none.digest(), none.best(9, 1), GongTide.STATE);
    }
}
