/** The calls of the face by their names, so that tests can tell a call as a text: "raise 0 9". */
final class Calls {
    private Calls() {
    }

    static long answer(GongTide gong, String call) {
        String[] parts = call.split(" ");
        int[] arguments = new int[parts.length - 1];
        for (int i = 0; i < arguments.length; i++) {
            arguments[i] = Integer.parseInt(parts[i + 1]);
        }
        return answer(gong, parts[0], arguments);
    }

    static long answer(GongTide gong, String name, int[] a) {
        switch (name) {
            case "letter": return gong.letter(a[0]);
            case "blank": return gong.blank();
            case "fault": return gong.fault();
            case "colony": return gong.colony();
            case "about": return gong.about(a[0], a[1]);
            case "as": return gong.as(a[0], a[1]);
            case "raise": return gong.raise(a[0], a[1]);
            case "tide": return gong.tide(a[0]);
            case "strike": return gong.strike(a[0], a[1]);
            case "felt": return gong.felt(a[0], a[1]);
            case "stroke": return gong.stroke(a[0], a[1]);
            case "dinner": return gong.dinner(a[0], a[1]);
            case "best": return gong.best(a[0], a[1]);
            case "hear": return gong.hear(a[0], a[1], a[2], a[3]);
            case "forget": return gong.forget();
            case "hours": return gong.hours();
            case "ask": return gong.ask(a[0]);
            case "weeks": return gong.weeks(a[0], a[1], a[2]);
            case "image": return gong.image();
            case "restore": return gong.restore();
            case "count": return gong.count(a[0]);
            case "digest": return gong.digest();
            default: throw new IllegalArgumentException(name);
        }
    }
}
