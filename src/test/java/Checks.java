/** What the tests share: they print each answer that is not due, and end with exit code 1 then. */
final class Checks {
    private static String place = "";
    private static int wrong = 0;
    private static int made = 0;
    private static int madeBefore = 0;

    private Checks() {
    }

    /** What is looked at from here on belongs to this case. */
    static void begin(String name) {
        place = name + ": ";
        madeBefore = made;
    }

    /** A case that looks at nothing would hold whatever the program does. */
    static void holdsSome() {
        if (made == madeBefore) {
            due("the case", "looked at nothing", "at least one answer");
        }
    }

    static void due(String call, long got, long want) {
        made++;
        if (got != want) {
            tell(call, String.valueOf(got), String.valueOf(want));
        }
    }

    static void due(String call, String got, String want) {
        made++;
        if (!got.equals(want)) {
            tell(call, got, want);
        }
    }

    private static void tell(String call, String got, String want) {
        wrong++;
        System.out.println(place + call + " answered " + got + ", due is " + want);
    }

    static void end() {
        System.out.println(made + " answers looked at, " + wrong + " not as due");
        if (wrong != 0) {
            System.exit(1);
        }
    }
}
