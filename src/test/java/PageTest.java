/** Promises 1 to 5: a new object, letter, blank, fault, colony. */
public final class PageTest {
    public static void main(String[] args) {
        newObject();
        letter();
        blank();
        fault();
        colony();
        colonyRefused();
        anotherColony();
        Checks.end();
    }

    private static void newObject() {
        GongTide x = new GongTide();
        for (int what = 0; what <= 8; what++) {
            Checks.due("new: count(" + what + ")", x.count(what), 0);
        }
        Checks.due("new: about(0, 0)", x.about(0, 0), GongTide.UNKNOWN);
        Checks.due("new: tide(0)", x.tide(0), GongTide.STATE);
        Checks.due("new: image()", x.image(), GongTide.STATE);
        Checks.due("new: restore()", x.restore(), GongTide.STATE);
        Checks.due("new: blank()", x.blank(), 0);
        long h = 1091;
        for (int what = 0; what <= 8; what++) {
            h *= 31;
        }
        Checks.due("new: digest()", x.digest(), h);
    }

    private static void letter() {
        GongTide x = new GongTide();
        Checks.due("letter(32)", x.letter(32), 1);
        Checks.due("letter(126)", x.letter(126), 2);
        for (int code : new int[] {31, 127, 0, -1, Integer.MIN_VALUE, Integer.MAX_VALUE}) {
            Checks.refused("letter(" + code + ")", x, x.digest(), x.letter(code), GongTide.OUTSIDE);
        }
        for (int n = 3; n <= 25; n++) {
            Checks.due("letter " + n, x.letter('h'), n);
        }
        long before = x.digest();
        Checks.refused("letter 26", x, before, x.letter('h'), GongTide.FULL);
        Checks.refused("letter(31) on a full page", x, before, x.letter(31), GongTide.OUTSIDE);
        Checks.due("count(7)", x.count(7), 25);
    }

    private static void blank() {
        GongTide x = new GongTide();
        Checks.write(x, "h0,h");
        Checks.due("blank()", x.blank(), 4);
        Checks.due("blank() again", x.blank(), 0);
        Checks.due("count(7)", x.count(7), 0);
        Checks.due("letter behind blank()", x.letter('h'), 1);
        Checks.due("fault() behind blank()", x.fault(), 1);
    }

    private static void fault() {
        String[] sound = {"", "h", "h0", "l9,", "o5,d", "c1,h2", "h0,h0,", "h0,h0;", "h0,h0;9", "h0,h0;91",
            "h0,h0;910", "h0,h0;0102030", "h0,h0;01020304", "h0,l1,o2,d3,c4;01020304", "h0,l1,o2,d3,c4"};
        for (String text : sound) {
            faultOf(text, text.length());
        }
        faultOf("x", 0);
        faultOf("H0", 0);
        faultOf(" h0", 0);
        faultOf("0", 0);
        faultOf(",", 0);
        faultOf(";", 0);
        faultOf("hh", 1);
        faultOf("h:", 1);
        faultOf("h/", 1);
        faultOf("h0;", 2);
        faultOf("h0h", 2);
        faultOf("h0,0", 3);
        faultOf("h0,h;", 4);
        faultOf("h0,h0:", 5);
        faultOf("h0,h00", 5);
        faultOf("h0,h0,;", 6);
        faultOf("h0,h0;;", 6);
        faultOf("h0,h0;:1", 6);
        faultOf("h0,h0;/1", 6);
        faultOf("h0,h0;h1", 6);
        faultOf("h0,h0;00", 7);
        faultOf("h0,h0;0:", 7);
        faultOf("h0,h0;0h", 7);
        faultOf("h0,h0;01,02", 8);
        faultOf("h0,h0;01;02", 8);
        faultOf("h0,h0;010203040", 14);
        faultOf("h0,h0,h0,h0,h0,", 14);
        faultOf("h0,h0,h0,h0,h0,h0;01", 14);
        faultOf("h0,h0,h0,h0,h0;010203041", 23);
        faultOf("h0,h0,h0,h0,h0;0102030411", 23);
        faultOf("h0,h0,x0;01", 6);
        faultOf("x0,h0;00", 0);
        faultOf("h0,x0;00", 3);
        faultOf("h0;h0;01", 2);
    }

    private static void faultOf(String text, int want) {
        GongTide x = new GongTide();
        Checks.write(x, text);
        long before = x.digest();
        Checks.refused("fault() of " + text, x, before, x.fault(), want);
    }

    private static void colony() {
        GongTide x = new GongTide();
        Checks.write(x, "h0,l1,o2,d3,c9;01293849");
        Checks.due("colony()", x.colony(), 5);
        Checks.due("count(0)", x.count(0), 5);
        Checks.due("count(1)", x.count(1), 4);
        Checks.due("count(7)", x.count(7), 0);
        Checks.due("count(8)", x.count(8), 1);
        int[] levels = {0, 1, 2, 3, 9};
        for (int house = 0; house < 5; house++) {
            Checks.due("KIND of " + house, x.about(house, 0), house);
            Checks.due("LEVEL of " + house, x.about(house, 1), levels[house]);
        }
        int[] hours = {0, 2, 3, 4};
        int[] louds = {1, 9, 8, 9};
        for (int stroke = 0; stroke < 4; stroke++) {
            Checks.due("HOUR of " + stroke, x.stroke(stroke, 0), hours[stroke]);
            Checks.due("LOUD of " + stroke, x.stroke(stroke, 1), louds[stroke]);
        }
    }

    private static void colonyRefused() {
        String[] none = {"", "h0,h0", "h0,h0;", "h0,h0;0", "h0,h0;010", "h0;01", "h0,h0;00", "h0,h0;01 ",
            "h0,h0;0102030405", "h0,h0,h0,h0,h0,h0;01", "x0,h0;01", "h0,h0;01;"};
        for (String text : none) {
            GongTide x = new GongTide();
            Checks.write(x, text);
            Checks.refused("colony() of " + text, x, x.digest(), x.colony(), GongTide.STATE);
            GongTide y = Checks.colony("c2,o0;01");
            y.strike(3, 9);
            y.hear(0, 4, 5, 1);
            y.image();
            Checks.write(y, text);
            Checks.refused("colony() of " + text + " over one", y, y.digest(), y.colony(), GongTide.STATE);
            Checks.due("restore() behind it", y.restore(), 1);
        }
    }

    private static void anotherColony() {
        GongTide x = Checks.colony("h2,l4,o1,c3;2638");
        x.raise(0, 7);
        x.strike(5, 5);
        x.felt(0, 0);
        x.hear(0, 3, 4, 1);
        x.image();
        Checks.write(x, "d1,o6;45");
        Checks.due("colony(), another", x.colony(), 2);
        long[] counts = {2, 1, 5, 18, 0, 0, 0, 0, 2};
        for (int what = 0; what <= 8; what++) {
            Checks.due("another: count(" + what + ")", x.count(what), counts[what]);
        }
        Checks.due("another: KIND", x.about(0, 0), 3);
        Checks.due("another: KIND of 1", x.about(1, 0), 2);
        Checks.due("another: LEVEL", x.about(0, 1), 1);
        Checks.due("another: about(2, 0)", x.about(2, 0), GongTide.UNKNOWN);
        Checks.due("another: hours()", x.hours(), 1023);
        Checks.due("another: restore()", x.restore(), GongTide.STATE);
    }
}
