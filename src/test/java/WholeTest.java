/** Promises 20 to 23: image, restore, count, digest. */
public final class WholeTest {
    public static void main(String[] args) {
        imageAndRestore();
        imageOfWhatIsHeard();
        theLatestImage();
        whatNoImageKeeps();
        imageAndRestoreRefused();
        count();
        countRefused();
        digest();
        Checks.end();
    }

    private static void imageAndRestore() {
        GongTide x = Checks.colony("h2,l4,c1;2638");
        x.raise(0, 5);
        x.strike(9, 9);
        x.hear(0, 9, 5, 2);
        x.hear(1, 4, 5, 1);
        int hours = x.hours();
        int asked = x.ask(3);
        long before = x.digest();
        Checks.refused("image()", x, before, x.image(), 2);
        x.raise(0, 0);
        x.raise(1, 9);
        x.felt(0, 0);
        x.felt(2, 1);
        x.strike(0, 1);
        x.forget();
        x.hear(2, 0, 1, 2);
        Checks.due("count(5) meanwhile", x.count(5), 7);
        Checks.refused("restore()", x, before, x.restore(), 2);
        Checks.due("LEVEL of 0", x.about(0, 1), 5);
        Checks.due("LEVEL of 1", x.about(1, 1), 4);
        Checks.due("count(1)", x.count(1), 3);
        Checks.due("LOUD of 0", x.stroke(0, 1), 6);
        Checks.due("LOUD of 2", x.stroke(2, 1), 9);
        Checks.due("count(5)", x.count(5), 2);
        Checks.due("count(6)", x.count(6), 2);
        Checks.due("hours()", x.hours(), hours);
        Checks.due("ask(3)", x.ask(3), asked);
        x.felt(0, 0);
        x.hear(0, 0, 1, 2);
        Checks.refused("restore(), once more", x, before, x.restore(), 2);
        Checks.due("LOUD of 0, once more", x.stroke(0, 1), 6);
        Checks.due("hours(), once more", x.hours(), hours);
    }

    private static void imageOfWhatIsHeard() {
        GongTide x = Checks.colony("h0,h9;09");
        x.hear(0, 4, 9, 2);
        x.hear(1, 3, 9, 1);
        Checks.due("hours()", x.hours(), 12);
        x.image();
        x.forget();
        x.hear(0, 5, 2, 1);
        x.hear(0, 6, 3, 2);
        x.hear(0, 6, 3, 2);
        Checks.due("hours() meanwhile", x.hours(), 0);
        x.restore();
        Checks.due("count(6) behind restore()", x.count(6), 2);
        Checks.due("hours() behind restore()", x.hours(), 12);
    }

    private static void theLatestImage() {
        GongTide x = Checks.colony("h2,l4;26");
        Checks.due("image() of 0", x.image(), 0);
        x.strike(4, 4);
        Checks.due("image() of 1", x.image(), 1);
        x.strike(5, 5);
        Checks.due("restore()", x.restore(), 1);
        Checks.due("count(1)", x.count(1), 2);
        Checks.due("HOUR", x.stroke(1, 0), 4);
        Checks.due("strike behind it", x.strike(7, 7), 2);
        Checks.due("HOUR of it", x.stroke(2, 0), 7);
    }

    private static void whatNoImageKeeps() {
        GongTide x = Checks.colony("h2,l4;26");
        Checks.write(x, "h0");
        x.image();
        Checks.write(x, ",l");
        x.restore();
        Checks.due("count(7)", x.count(7), 4);
        Checks.due("fault()", x.fault(), 4);
        Checks.due("count(8)", x.count(8), 1);
        Checks.due("KIND", x.about(1, 0), 1);
    }

    private static void imageAndRestoreRefused() {
        GongTide none = new GongTide();
        Checks.refused("image() of none", none, none.digest(), none.image(), GongTide.STATE);
        Checks.refused("restore() of none", none, none.digest(), none.restore(), GongTide.STATE);
        GongTide x = Checks.colony("h2,l4;26");
        x.strike(4, 4);
        Checks.refused("restore(), none kept", x, x.digest(), x.restore(), GongTide.STATE);
        x.image();
        Checks.write(x, "h2,l4;26");
        Checks.due("colony(), another", x.colony(), 2);
        Checks.refused("restore(), another colony since", x, x.digest(), x.restore(), GongTide.STATE);
        Checks.due("image() of the other", x.image(), 0);
        x.strike(4, 4);
        Checks.due("restore() of the other", x.restore(), 0);
        Checks.due("count(1)", x.count(1), 1);
    }

    private static void counts(GongTide x, long... wants) {
        for (int what = 0; what <= 8; what++) {
            Checks.due("count(" + what + ")", x.count(what), wants[what]);
        }
    }

    private static void count() {
        GongTide x = Checks.colony("h2,l4,o1,c3;2638");
        counts(x, 4, 2, 12, 30, 10, 0, 0, 0, 1);
        x.raise(0, 2);
        x.felt(0, 6);
        x.hear(0, 0, 1, 0);
        Checks.write(x, "d0,d0;01");
        counts(x, 4, 2, 12, 30, 10, 2, 1, 8, 1);
        x.colony();
        counts(x, 2, 1, 1, 12, 0, 0, 0, 0, 2);
        x.strike(0, 9);
        x.strike(0, 9);
        x.strike(0, 9);
        counts(x, 2, 4, 20, 12, 0, 3, 0, 0, 2);
        x.blank();
        x.forget();
        x.image();
        counts(x, 2, 4, 20, 12, 0, 3, 0, 0, 2);
        // The greatest manners of politeness are 4; at 5 one loves.
        GongTide edge = Checks.colony("h0,h0;0445");
        counts(edge, 2, 2, 5, 14, 2, 0, 0, 0, 1);
    }

    private static void countRefused() {
        GongTide x = Checks.colony("h2,l4;26");
        for (int what : new int[] {-1, 9, Integer.MIN_VALUE, Integer.MAX_VALUE}) {
            Checks.refused("count(" + what + ")", x, x.digest(), x.count(what), GongTide.OUTSIDE);
        }
        Checks.due("count(9) of none", new GongTide().count(9), GongTide.OUTSIDE);
    }

    /** The digest as promise 23 tells it, from the answers of the other calls. */
    private static long digestOf(GongTide x, String page) {
        long h = 1091;
        for (int house = 0; house < x.count(0); house++) {
            for (int what = 0; what <= 21; what++) {
                if (what <= 4 || what >= 10) {
                    h = 31 * h + x.about(house, what);
                }
            }
        }
        for (int stroke = 0; stroke < x.count(1); stroke++) {
            for (int what = 0; what <= 2; what++) {
                h = 31 * h + x.stroke(stroke, what);
            }
        }
        if (x.count(0) > 0) {
            for (int hour = 0; hour <= 11; hour++) {
                h = 31 * h + x.tide(hour);
            }
            int[] rest = {x.dinner((1 << x.count(0)) - 1, 2), x.best(5, 0), x.best(5, 1), x.hours(), x.ask(4)};
            for (int number : rest) {
                h = 31 * h + number;
            }
        }
        for (char letter : page.toCharArray()) {
            h = 31 * h + letter;
        }
        for (int what = 0; what <= 8; what++) {
            h = 31 * h + x.count(what);
        }
        return h;
    }

    private static void digest() {
        GongTide x = new GongTide();
        Checks.due("digest() of none", x.digest(), digestOf(x, ""));
        Checks.write(x, "h2,l4,o1,c3;26 ~");
        Checks.due("digest() of a page", x.digest(), digestOf(x, "h2,l4,o1,c3;26 ~"));
        x = Checks.colony("h2,l4,o1,d3,c3;26384759");
        Checks.due("digest()", x.digest(), digestOf(x, ""));
        x.strike(9, 9);
        x.felt(0, 0);
        x.hear(0, 11, 9, 0);
        x.hear(1, 11, 3, 1);
        x.raise(2, 0);
        Checks.write(x, "c1,");
        Checks.due("digest() of all", x.digest(), digestOf(x, "c1,"));
        // Other dinners, bests and hours to ask for would be told otherwise here.
        GongTide y = Checks.colony("c6,l3,o3;0739");
        y.hear(0, 11, 9, 0);
        Checks.due("digest() of another", y.digest(), digestOf(y, ""));
        x.hear(1, 11, 3, 2);
        Checks.due("digest() with no hour", x.digest(), digestOf(x, "c1,"));
        Checks.due("digest() again", x.digest(), x.digest());
    }
}
