/** Promises 6 to 8: about, as, raise. */
public final class HousesTest {
    public static void main(String[] args) {
        aboutEachKind();
        aboutAtEdges();
        aboutRefused();
        as();
        raise();
        raiseRefused();
        Checks.end();
    }

    private static void aboutHouse(GongTide x, int house, int[] wants, String manners) {
        for (int what = 0; what <= 4; what++) {
            Checks.due("about(" + house + ", " + what + ")", x.about(house, what), wants[what]);
        }
        Checks.due("manners of " + house, Checks.manners(x, house), manners);
    }

    private static void aboutEachKind() {
        GongTide x = Checks.colony("h2,l4,o1,d7,c3;2638");
        Checks.due("tides", Checks.tides(x), "0 0 6 12 8 4 2 0 0 0 0 0");
        aboutHouse(x, 0, new int[] {0, 2, 8, 10, 3}, "0 0 4 10 6 2 0 0 0 0 0 0");
        aboutHouse(x, 1, new int[] {1, 4, 7, 11, 3}, "0 0 5 11 7 3 1 0 0 0 0 0");
        aboutHouse(x, 2, new int[] {2, 1, 8, 7, 4}, "0 0 0 5 7 3 1 0 0 0 0 0");
        aboutHouse(x, 3, new int[] {3, 7, 6, 3, 0}, "3 0 3 0 3 0 3 0 3 0 3 0");
        aboutHouse(x, 4, new int[] {4, 3, 7, 12, 4}, "0 0 0 6 12 8 4 2 0 0 0 0");
    }

    private static void aboutAtEdges() {
        GongTide x = Checks.colony("l2,l3,c9,o0,h9;0899");
        Checks.due("tides", Checks.tides(x), "8 6 4 2 0 0 0 0 0 9 7 5");
        aboutHouse(x, 0, new int[] {1, 2, 5, 9, 9}, "8 6 4 2 0 0 0 0 0 9 7 5");
        aboutHouse(x, 1, new int[] {1, 3, 5, 9, 9}, "8 6 4 2 0 0 0 0 0 9 7 5");
        aboutHouse(x, 2, new int[] {4, 9, 9, 3, 10}, "0 2 0 0 0 0 0 0 0 0 3 1");
        aboutHouse(x, 3, new int[] {2, 0, 7, 7, 10}, "0 6 4 2 0 0 0 0 0 0 7 5");
        // Nothing but truth all day: the greatest manners are 0, first at hour 0.
        aboutHouse(x, 4, new int[] {0, 9, 12, 0, 0}, "0 0 0 0 0 0 0 0 0 0 0 0");
        aboutHouse(Checks.colony("h0,h0;19"), 0, new int[] {0, 0, 7, 9, 1}, "0 9 7 5 3 1 0 0 0 0 0 0");
        GongTide twice = Checks.colony("h0,h1;0454");
        aboutHouse(twice, 0, new int[] {0, 0, 8, 4, 0}, "4 2 0 0 0 4 2 0 0 0 0 0");
        aboutHouse(twice, 1, new int[] {0, 1, 8, 3, 0}, "3 1 0 0 0 3 1 0 0 0 0 0");
    }

    private static void aboutRefused() {
        GongTide x = Checks.colony("h2,l4;26");
        long before = x.digest();
        for (int house : new int[] {-1, 2, 5, Integer.MIN_VALUE, Integer.MAX_VALUE}) {
            Checks.refused("about(" + house + ", 0)", x, before, x.about(house, 0), GongTide.UNKNOWN);
            Checks.refused("about(" + house + ", 5)", x, before, x.about(house, 5), GongTide.UNKNOWN);
        }
        for (int what : new int[] {-1, 5, 9, 22, Integer.MIN_VALUE, Integer.MAX_VALUE}) {
            Checks.refused("about(1, " + what + ")", x, before, x.about(1, what), GongTide.OUTSIDE);
        }
    }

    private static void as() {
        GongTide x = Checks.colony("h0,l0,o0,d0,c0;01");
        int[][] holds = {{1, 0, 0, 0, 0}, {1, 1, 0, 0, 0}, {1, 0, 1, 0, 0}, {1, 0, 0, 1, 0}, {1, 1, 0, 0, 1}};
        long before = x.digest();
        for (int house = 0; house < 5; house++) {
            for (int kind = 0; kind < 5; kind++) {
                int want = holds[house][kind] == 1 ? house : GongTide.NONE;
                Checks.due("as(" + house + ", " + kind + ")", x.as(house, kind), want);
            }
            Checks.refused("as(" + house + ", 5)", x, before, x.as(house, 5), GongTide.OUTSIDE);
            Checks.refused("as(" + house + ", -1)", x, before, x.as(house, -1), GongTide.OUTSIDE);
        }
        Checks.refused("as(5, 0)", x, before, x.as(5, 0), GongTide.UNKNOWN);
        Checks.refused("as(-1, 9)", x, before, x.as(-1, 9), GongTide.UNKNOWN);
        Checks.due("as(0, 0) of none", new GongTide().as(0, 0), GongTide.UNKNOWN);
    }

    private static void raise() {
        GongTide x = Checks.colony("h2,l4;26");
        Checks.due("raise(0, 9)", x.raise(0, 9), 2);
        Checks.due("raise(0, 0)", x.raise(0, 0), 9);
        Checks.due("raise(0, 0), to the same", x.raise(0, 0), 0);
        Checks.due("count(5)", x.count(5), 3);
        Checks.due("LEVEL", x.about(0, 1), 0);
        Checks.due("manners then", Checks.manners(x, 0), "0 0 6 4 2 0 0 0 0 0 0 0");
        Checks.due("LEVEL of the other", x.about(1, 1), 4);
        Checks.due("raise(1, 5)", x.raise(1, 5), 4);
        Checks.due("manners of a low one then", Checks.manners(x, 1), "0 0 4 2 0 0 0 0 0 0 0 0");
    }

    private static void raiseRefused() {
        GongTide x = Checks.colony("h2,l4;26");
        long before = x.digest();
        Checks.refused("raise(2, 0)", x, before, x.raise(2, 0), GongTide.UNKNOWN);
        Checks.refused("raise(-1, 10)", x, before, x.raise(-1, 10), GongTide.UNKNOWN);
        Checks.refused("raise(0, 10)", x, before, x.raise(0, 10), GongTide.OUTSIDE);
        Checks.refused("raise(0, -1)", x, before, x.raise(0, -1), GongTide.OUTSIDE);
        Checks.due("raise(0, 0) of none", new GongTide().raise(0, 0), GongTide.UNKNOWN);
    }
}
