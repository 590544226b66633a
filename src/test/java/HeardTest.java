/** Promises 15 to 19: hear, forget, hours, ask, weeks. */
public final class HeardTest {
    public static void main(String[] args) {
        hear();
        hearRefused();
        forget();
        hours();
        hoursOfAllElseAsItIs();
        ask();
        askOfNone();
        weeks();
        drawsOfManySeeds();
        weeksByZeroLoud();
        weeksRefused();
        Checks.end();
    }

    private static void hear() {
        GongTide x = Checks.colony("h0,h9;09");
        int[][] edges = {{0, 0, 1, 0}, {1, 11, 9, 2}, {0, 0, 1, 0}, {0, 11, 1, 1}, {1, 0, 9, 0}, {1, 5, 5, 1}};
        for (int i = 0; i < edges.length; i++) {
            int[] a = edges[i];
            Checks.due("hear, " + i, x.hear(a[0], a[1], a[2], a[3]), i + 1);
            Checks.due("count(6), " + i, x.count(6), i + 1);
        }
        Checks.due("count(5)", x.count(5), 0);
        long before = x.digest();
        Checks.refused("the seventh", x, before, x.hear(0, 0, 1, 0), GongTide.FULL);
        Checks.refused("the seventh, outside", x, before, x.hear(0, 12, 1, 0), GongTide.OUTSIDE);
        Checks.refused("the seventh, unknown", x, before, x.hear(2, 0, 1, 0), GongTide.UNKNOWN);
    }

    private static void hearRefused() {
        GongTide x = Checks.colony("h0,h9;09");
        int[][] unknown = {{-1, 0, 1, 0}, {2, 0, 1, 0}, {5, 12, 0, 3}, {Integer.MIN_VALUE, 0, 1, 0}};
        for (int[] a : unknown) {
            Checks.refused("hear(" + a[0] + ", ..)", x, x.digest(), x.hear(a[0], a[1], a[2], a[3]), GongTide.UNKNOWN);
        }
        int[][] outside = {{0, -1, 1, 0}, {0, 12, 1, 0}, {0, 0, 0, 0}, {0, 0, 10, 0}, {0, 0, 1, -1}, {1, 0, 1, 3},
            {1, Integer.MAX_VALUE, 1, 0}, {1, 0, Integer.MIN_VALUE, 0}, {1, 0, 1, Integer.MAX_VALUE}};
        for (int[] a : outside) {
            Checks.refused("hear(" + a[0] + ", " + a[1] + ", " + a[2] + ", " + a[3] + ")", x, x.digest(),
                    x.hear(a[0], a[1], a[2], a[3]), GongTide.OUTSIDE);
        }
        Checks.due("count(6)", x.count(6), 0);
        Checks.due("hours()", x.hours(), 1023);
        Checks.due("hear of none", new GongTide().hear(0, 0, 1, 0), GongTide.UNKNOWN);
    }

    private static void forget() {
        GongTide x = Checks.colony("h0,h9;09");
        Checks.due("forget() of nothing", x.forget(), 0);
        x.hear(0, 6, 3, 1);
        x.hear(0, 6, 3, 2);
        Checks.due("hours()", x.hours(), 0);
        Checks.due("forget()", x.forget(), 2);
        Checks.due("forget() again", x.forget(), 0);
        Checks.due("hours() then", x.hours(), 1023);
        Checks.due("ask(2) then", x.ask(2), GongTide.NONE);
        Checks.due("count(5)", x.count(5), 0);
        Checks.due("hear then", x.hear(0, 6, 3, 1), 1);
        Checks.due("forget() of none", new GongTide().forget(), 0);
    }

    private static void hours() {
        Checks.due("hours() of none", new GongTide().hours(), GongTide.STATE);
        GongTide x = Checks.colony("h0,h9;09");
        Checks.due("hours(), nothing heard", x.hours(), 1023);
        int[] wants = {927, 96, 0};
        for (int how = 0; how <= 2; how++) {
            x.hear(0, 6, 3, how);
            Checks.due("hours(), heard " + how, x.hours(), wants[how]);
            x.forget();
        }
        x.hear(0, 4, 9, 2);
        Checks.due("hours(), one", x.hours(), 28);
        x.hear(1, 3, 9, 1);
        Checks.due("hours(), two", x.hours(), 12);
        long before = x.digest();
        Checks.refused("hours() again", x, before, x.hours(), 12);
        // Each is heard at a loudness of its own.
        x.hear(0, 5, 2, 1);
        Checks.due("hours(), three", x.hours(), 0);
    }

    private static void hoursOfAllElseAsItIs() {
        GongTide x = Checks.colony("h0,h9;09");
        x.hear(1, 3, 9, 1);
        Checks.due("hours()", x.hours(), 12);
        x.raise(1, 0);
        Checks.due("hours() behind raise", x.hours(), 1008);
        x.felt(0, 0);
        Checks.due("hours() behind felt", x.hours(), 1);
        x.strike(3, 1);
        Checks.due("hours() behind strike", x.hours(), 1009);
        GongTide six = Checks.colony("h0,h9;09010101");
        six.strike(0, 1);
        six.strike(0, 1);
        six.hear(0, 11, 9, 0);
        Checks.due("hours() with six strokes", six.hours(), 127);
    }

    private static void ask() {
        GongTide x = Checks.colony("h0,h9;09");
        x.hear(0, 11, 9, 0);
        Checks.due("hours()", x.hours(), 127);
        int[][] wants = {{0, 1}, {2, 1}, {4, 0}, {9, 0}, {10, 0}, {11, 0}};
        long before = x.digest();
        for (int[] w : wants) {
            Checks.refused("ask(" + w[0] + ")", x, before, x.ask(w[0]), w[1]);
        }
        // The one heard of last tells how loud it is.
        x.hear(0, 11, 1, 0);
        Checks.due("hours() still", x.hours(), 127);
        Checks.due("ask(2) at 1", x.ask(2), 0);
        // Only the hours that are left count: 2, 3 and 4 here.
        x.forget();
        x.hear(0, 4, 9, 2);
        Checks.due("ask(1) of three", x.ask(1), 0);
        Checks.due("ask(2) of three", x.ask(2), 1);
        // Nobody can tell: all ten hours are left, whomever one asks.
        x.forget();
        x.hear(0, 11, 1, 0);
        Checks.due("ask(11) at 1", x.ask(11), 0);
        // The deaf one is polite at all even hours, whenever it was struck.
        GongTide deaf = Checks.colony("d0,h9;09");
        deaf.hear(1, 11, 9, 0);
        Checks.due("hours() by a high house", deaf.hours(), 1023);
        Checks.due("ask(2) of a deaf one", deaf.ask(2), 1);
        Checks.due("ask(8) of a deaf one", deaf.ask(8), 0);
    }

    private static void askOfNone() {
        GongTide none = new GongTide();
        GongTide x = Checks.colony("h0,h9;09");
        for (int hour : new int[] {-1, 12, Integer.MIN_VALUE, Integer.MAX_VALUE}) {
            Checks.refused("ask(" + hour + ")", x, x.digest(), x.ask(hour), GongTide.OUTSIDE);
            Checks.due("ask(" + hour + ") of none", none.ask(hour), GongTide.OUTSIDE);
        }
        Checks.due("ask(11) of none", none.ask(11), GongTide.STATE);
        Checks.due("ask(0), nothing heard", x.ask(0), GongTide.NONE);
        x.hear(0, 6, 3, 2);
        Checks.due("ask(0), no hour left", x.ask(0), GongTide.NONE);
    }

    private static void weeksAre(GongTide x, int days, int seed, int truths, int high, int then) {
        String call = "weeks(" + days + ", " + seed + ", ";
        long before = x.digest();
        Checks.refused(call + "0)", x, before, x.weeks(days, seed, 0), truths);
        Checks.refused(call + "1)", x, before, x.weeks(days, seed, 1), high);
        Checks.refused(call + "2)", x, before, x.weeks(days, seed, 2), then);
    }

    private static int seedBehind(int seed, int draws) {
        java.math.BigInteger next = java.math.BigInteger.valueOf(seed);
        for (int i = 0; i < draws; i++) {
            next = next.multiply(java.math.BigInteger.valueOf(1103515245)).add(java.math.BigInteger.valueOf(12345))
                    .mod(java.math.BigInteger.TWO.pow(31));
        }
        return next.intValueExact();
    }

    private static void weeks() {
        // Seed 1 draws 8, 8, 3, 5, 1, 7, 0, 9, 2, 6.
        GongTide x = Checks.colony("h0,h9;09");
        weeksAre(x, 1, 1, 20, 3, 1103527590);
        weeksAre(x, 2, 1, 40, 6, seedBehind(1, 2));
        weeksAre(x, 3, 1, 59, 6, seedBehind(1, 3));
        weeksAre(x, 10, 1, 20 + 20 + 19 + 19 + 19 + 19 + 19 + 21 + 19 + 19, 3 + 3 + 1 + 5, seedBehind(1, 10));
        Checks.due("weeks(30, MAX, 2)", x.weeks(30, Integer.MAX_VALUE, 2), seedBehind(Integer.MAX_VALUE, 30));
        Checks.due("weeks(1, 0, 2)", x.weeks(1, 0, 2), 12345);
        // Who has only the calendar says truth at six hours, whatever is drawn.
        Checks.due("weeks of the deaf", Checks.colony("d0,d9;19").weeks(30, 7, 0), 360);
        // Two strokes, 8 and 8: together 18 at 8, then 14, 10, 6.
        GongTide both = Checks.colony("h0,h9;0929");
        weeksAre(both, 1, 1, 8 + 9, 6, seedBehind(1, 2));
        // Three strokes of one hour are cut at 20 in the hour itself.
        GongTide three = Checks.colony("h0,h9;090908");
        three.felt(2, 9);
        Checks.due("weeks(1, 1, 1)", three.weeks(1, 1, 1), 6);
    }

    private static void drawsOfManySeeds() {
        GongTide x = Checks.colony("h0,h0;99");
        int[] lastTides = {0, 0, 0, 0, 0, 0, 0, 1, 3, 5};
        for (int seed = 0; seed < 2000000000; seed += 9999991) {
            int hour = seedBehind(seed, 1) / 65536 % 10;
            Checks.due("weeks(1, " + seed + ", 1)", x.weeks(1, seed, 1), lastTides[hour]);
        }
    }

    private static void weeksByZeroLoud() {
        GongTide x = Checks.colony("h0,h9;0909");
        x.felt(0, 0);
        weeksAre(x, 1, 1, 20, 3, seedBehind(1, 2));
        weeksAre(x, 2, 1, 39, 3, seedBehind(1, 4));
    }

    private static void weeksRefused() {
        GongTide x = Checks.colony("h0,h9;09");
        GongTide none = new GongTide();
        int[][] outside = {{0, 1, 0}, {31, 1, 0}, {-1, 1, 0}, {1, -1, 0}, {1, 1, -1}, {1, 1, 3},
            {Integer.MAX_VALUE, 1, 0}, {1, Integer.MIN_VALUE, 0}, {1, 1, Integer.MIN_VALUE}};
        for (int[] a : outside) {
            String call = "weeks(" + a[0] + ", " + a[1] + ", " + a[2] + ")";
            Checks.refused(call, x, x.digest(), x.weeks(a[0], a[1], a[2]), GongTide.OUTSIDE);
            Checks.refused(call + " of none", none, none.digest(), none.weeks(a[0], a[1], a[2]), GongTide.OUTSIDE);
        }
        Checks.refused("weeks(1, 1, 2) of none", none, none.digest(), none.weeks(1, 1, 2), GongTide.STATE);
    }
}
