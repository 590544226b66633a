import java.util.Random;

/** Long runs of calls, drawn by fixed seeds, against the model. */
public final class ModelTest {
    private static final int RUNS = 1500;
    private static final int CALLS = 512;
    private static final int[] WILD = {-1, 10, 12, 22, 25, 31, 127, 255, 1 << 16, -2, -12345,
        Integer.MAX_VALUE, Integer.MIN_VALUE};
    /** A call and the number that each of its arguments stays below, mostly. */
    private static final String[] CALLS_AND_BOUNDS = {"blank", "fault", "colony", "about 5 22", "as 5 5", "raise 5 10",
        "tide 12", "strike 10 10", "felt 6 10", "stroke 6 3", "dinner 32 7", "best 10 2", "hear 5 12 10 3", "forget",
        "hours", "ask 12", "weeks 31 2147483647 3", "image", "restore", "count 9", "digest", "hours", "ask 12",
        "hear 5 12 10 3", "hear 5 12 10 1", "about 3 22"};

    private final Random random;
    private final GongTide tested = new GongTide();
    private final Model model = new Model();
    private final int run;
    private int calls;

    private ModelTest(int run) {
        this.run = run;
        this.random = new Random(run);
    }

    public static void main(String[] args) {
        for (int run = 0; run < RUNS; run++) {
            new ModelTest(run).play();
        }
        Checks.end();
    }

    private void play() {
        while (calls < CALLS) {
            int chance = random.nextInt(100);
            if (chance < 3 || model.call("count", new int[] {0}) == 0 && chance < 40) {
                both("blank");
                write(colonyText());
                both("colony");
            } else if (chance < 5) {
                write(nearlyColonyText());
                both("fault");
                both("colony");
            } else if (chance < 7) {
                both("letter", 28 + random.nextInt(104));
            } else {
                drawnCall();
            }
        }
    }

    private void write(String text) {
        for (int i = 0; i < text.length(); i++) {
            both("letter", text.charAt(i));
        }
    }

    private String colonyText() {
        StringBuilder text = new StringBuilder();
        int houses = 2 + random.nextInt(4);
        for (int i = 0; i < houses; i++) {
            text.append(i == 0 ? "" : ",").append("hlodc".charAt(random.nextInt(5))).append(random.nextInt(10));
        }
        text.append(';');
        int strokes = 1 + random.nextInt(4);
        for (int i = 0; i < strokes; i++) {
            text.append(random.nextInt(10)).append(1 + random.nextInt(9));
        }
        return text.toString();
    }

    private String nearlyColonyText() {
        StringBuilder text = new StringBuilder(colonyText());
        int place = random.nextInt(text.length());
        char other = "hlodc0123456789,;;, x".charAt(random.nextInt(21));
        switch (random.nextInt(4)) {
            case 0: text.setCharAt(place, other); break;
            case 1: text.insert(place, other); break;
            case 2: text.deleteCharAt(place); break;
            default: text.setLength(place); break;
        }
        return text.toString();
    }

    private void drawnCall() {
        String[] parts = CALLS_AND_BOUNDS[random.nextInt(CALLS_AND_BOUNDS.length)].split(" ");
        int[] a = new int[parts.length - 1];
        for (int i = 0; i < a.length; i++) {
            a[i] = random.nextInt(25) == 0 ? WILD[random.nextInt(WILD.length)]
                    : random.nextInt(Integer.parseInt(parts[i + 1]));
        }
        both(parts[0], a);
    }

    private void both(String name, int... a) {
        calls++;
        if (calls <= CALLS) {
            String call = "run " + run + ", call " + calls + ", " + name + java.util.Arrays.toString(a);
            long want = model.call(name, a);
            Checks.due(call, Calls.answer(tested, name, a), want);
        }
    }
}
