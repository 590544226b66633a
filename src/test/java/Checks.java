/** What the tests share: they print each answer that is not due, and end with exit code 1 then. */
final class Checks {
    private static int wrong = 0;
    private static int made = 0;

    private Checks() {
    }

    static void due(String call, long got, long want) {
        made++;
        if (got != want) {
            wrong++;
            System.out.println(call + " answered " + got + ", due is " + want);
        }
    }

    static void due(String call, String got, String want) {
        made++;
        if (!got.equals(want)) {
            wrong++;
            System.out.println(call + " answered " + got + ", due is " + want);
        }
    }

    /** A call that was refused: its answer, and that nothing changed since `before`. */
    static void refused(String call, GongTide x, long before, long got, long want) {
        due(call, got, want);
        due("digest() behind " + call, x.digest(), before);
    }

    static void write(GongTide x, String text) {
        for (int i = 0; i < text.length(); i++) {
            x.letter(text.charAt(i));
        }
    }

    static GongTide colony(String text) {
        GongTide x = new GongTide();
        write(x, text);
        int houses = text.substring(0, text.indexOf(';')).split(",").length;
        due("colony() of " + text, x.colony(), houses);
        return x;
    }

    /** The manners of a house, hour by hour. */
    static String manners(GongTide x, int house) {
        StringBuilder row = new StringBuilder();
        for (int what = 10; what <= 21; what++) {
            row.append(what == 10 ? "" : " ").append(x.about(house, what));
        }
        return row.toString();
    }

    /** The tide, hour by hour. */
    static String tides(GongTide x) {
        StringBuilder row = new StringBuilder();
        for (int hour = 0; hour <= 11; hour++) {
            row.append(hour == 0 ? "" : " ").append(x.tide(hour));
        }
        return row.toString();
    }

    static void end() {
        System.out.println(made + " answers looked at, " + wrong + " not as due");
        if (wrong != 0) {
            System.exit(1);
        }
    }
}
