import java.util.ArrayList;
import java.util.List;
import java.util.regex.Matcher;
import java.util.regex.Pattern;

/** The document once more, written plainly from texts and lists, to hold GongTide against. */
final class Model {
    private static final Pattern COLONY = Pattern.compile("[hlodc][0-9](,[hlodc][0-9]){1,4};([0-9][1-9]){1,4}");
    private static final int NONE = -1, UNKNOWN = -101, OUTSIDE = -102, STATE = -103, FULL = -104;

    /** What an image keeps; never changed once made. */
    private record Kept(List<Integer> levels, List<int[]> strokes, List<int[]> heard, int changes) {
    }

    private String page = "";
    private String kinds = "";
    private List<Integer> levels = new ArrayList<>();
    private List<int[]> strokes = new ArrayList<>();
    private List<int[]> heard = new ArrayList<>();
    private int changes;
    private int readings;
    private Kept kept;

    long call(String name, int[] a) {
        switch (name) {
            case "letter": return letter(a[0]);
            case "blank": { int n = page.length(); page = ""; return n; }
            case "fault": return fault();
            case "colony": return colony();
            case "about": return about(a[0], a[1]);
            case "as": return as(a[0], a[1]);
            case "raise": return raise(a[0], a[1]);
            case "tide": return out(a[0], 0, 11) ? OUTSIDE : none() ? STATE : tide(strokes, a[0]);
            case "strike": return strike(a[0], a[1]);
            case "felt": return felt(a[0], a[1]);
            case "stroke": return stroke(a[0], a[1]);
            case "dinner": return dinner(a[0], a[1]);
            case "best": return best(a[0], a[1]);
            case "hear": return hear(a[0], a[1], a[2], a[3]);
            case "forget": { int n = heard.size(); heard = new ArrayList<>(); return n; }
            case "hours": return none() ? STATE : bits(candidates());
            case "ask": return ask(a[0]);
            case "weeks": return weeks(a[0], a[1], a[2]);
            case "image": return image();
            case "restore": return restore();
            case "count": return count(a[0]);
            case "digest": return digest();
            default: throw new IllegalArgumentException(name);
        }
    }

    private static boolean out(int n, int least, int greatest) {
        return n < least || n > greatest;
    }

    private boolean none() {
        return kinds.isEmpty();
    }

    private int letter(int code) {
        if (out(code, 32, 126)) return OUTSIDE;
        if (page.length() >= 25) return FULL;
        page += (char) code;
        return page.length();
    }

    /** A text can become a colony if the pattern fits it, or only missed more letters. */
    private int fault() {
        for (int n = page.length(); n > 0; n--) {
            Matcher m = COLONY.matcher(page.substring(0, n));
            if (m.matches() || m.hitEnd()) return n;
        }
        return 0;
    }

    private int colony() {
        if (!COLONY.matcher(page).matches()) return STATE;
        String[] parts = page.split(";");
        kinds = "";
        levels = new ArrayList<>();
        strokes = new ArrayList<>();
        for (String house : parts[0].split(",")) {
            kinds += house.charAt(0);
            levels.add(Integer.parseInt(house.substring(1)));
        }
        for (int i = 0; i < parts[1].length(); i += 2) {
            strokes.add(new int[] {parts[1].charAt(i) - '0', parts[1].charAt(i + 1) - '0'});
        }
        heard = new ArrayList<>();
        changes = 0;
        kept = null;
        readings++;
        page = "";
        return kinds.length();
    }

    private static int tide(List<int[]> strokes, int hour) {
        int sum = 0;
        for (int[] s : strokes) {
            if (hour >= s[0]) sum += Math.max(0, s[1] - 2 * (hour - s[0]));
        }
        return Math.min(20, sum);
    }

    private int manners(List<int[]> strokes, int house, int hour) {
        int tide = tide(strokes, hour);
        int before = hour == 0 ? 0 : tide(strokes, hour - 1);
        int level = levels.get(house);
        char kind = kinds.charAt(house);
        if (kind == 'd') return hour % 2 == 0 ? 3 : 0;
        if (kind == 'l' || kind == 'c') level = level < 3 ? 0 : level - 3;
        if (kind == 'c') tide = before;
        if (kind == 'o' && before < tide) tide = before;
        return tide < level ? 0 : tide - level;
    }

    private int how(List<int[]> strokes, int house, int hour) {
        int m = manners(strokes, house, hour);
        return m == 0 ? 0 : m <= 4 ? 1 : 2;
    }

    private int hoursOf(List<int[]> strokes, int house, int how) {
        int n = 0;
        for (int hour = 0; hour <= 11; hour++) n += how(strokes, house, hour) == how ? 1 : 0;
        return n;
    }

    private int hoursOfAll(List<int[]> strokes, int how) {
        int n = 0;
        for (int house = 0; house < kinds.length(); house++) n += hoursOf(strokes, house, how);
        return n;
    }

    private int about(int house, int what) {
        if (out(house, 0, kinds.length() - 1)) return UNKNOWN;
        if (what == 0) return "hlodc".indexOf(kinds.charAt(house));
        if (what == 1) return levels.get(house);
        if (what == 2) return hoursOf(strokes, house, 0);
        if (what >= 10 && what <= 21) return manners(strokes, house, what - 10);
        if (what != 3 && what != 4) return OUTSIDE;
        int greatest = -1;
        int first = -1;
        for (int hour = 0; hour <= 11; hour++) {
            int m = manners(strokes, house, hour);
            if (m > greatest) {
                greatest = m;
                first = hour;
            }
        }
        return what == 3 ? greatest : first;
    }

    private int as(int house, int kind) {
        if (out(house, 0, kinds.length() - 1)) return UNKNOWN;
        if (out(kind, 0, 4)) return OUTSIDE;
        String holders = new String[] {"hlodc", "lc", "o", "d", "c"}[kind];
        return holders.indexOf(kinds.charAt(house)) >= 0 ? house : NONE;
    }

    private int raise(int house, int level) {
        if (out(house, 0, kinds.length() - 1)) return UNKNOWN;
        if (out(level, 0, 9)) return OUTSIDE;
        changes++;
        return levels.set(house, level);
    }

    private int strike(int hour, int loud) {
        if (out(hour, 0, 9) || out(loud, 1, 9)) return OUTSIDE;
        if (none()) return STATE;
        if (strokes.size() == 6) return FULL;
        strokes.add(new int[] {hour, loud});
        changes++;
        return strokes.size() - 1;
    }

    private int felt(int stroke, int loud) {
        if (out(stroke, 0, strokes.size() - 1)) return UNKNOWN;
        if (out(loud, 0, 9)) return OUTSIDE;
        int[] before = strokes.set(stroke, new int[] {strokes.get(stroke)[0], loud});
        changes++;
        return before[1];
    }

    private int stroke(int stroke, int what) {
        if (out(stroke, 0, strokes.size() - 1)) return UNKNOWN;
        if (out(what, 0, 2)) return OUTSIDE;
        if (what < 2) return strokes.get(stroke)[what];
        List<int[]> alone = List.of(strokes.get(stroke));
        for (int hour = alone.get(0)[0]; hour <= 11; hour++) {
            if (tide(alone, hour) == 0) return hour;
        }
        return NONE;
    }

    private int dinner(int houses, int hours) {
        if (houses < 1 || houses >= Math.pow(2, kinds.length()) || out(hours, 1, 6)) return OUTSIDE;
        next:
        for (int start = 0; start + hours - 1 <= 11; start++) {
            for (int hour = start; hour < start + hours; hour++) {
                for (int house = 0; house < kinds.length(); house++) {
                    if ((houses & 1 << house) != 0 && how(strokes, house, hour) == 0) continue next;
                }
            }
            return start;
        }
        return NONE;
    }

    private List<int[]> with(int hour, int loud) {
        List<int[]> more = new ArrayList<>(strokes);
        more.add(new int[] {hour, loud});
        return more;
    }

    private int best(int loud, int what) {
        if (out(loud, 1, 9) || out(what, 0, 1)) return OUTSIDE;
        if (none()) return STATE;
        int[] best = {0, -1};
        for (int hour = 0; hour <= 9; hour++) {
            int n = hoursOfAll(with(hour, loud), 1) + hoursOfAll(with(hour, loud), 2);
            if (n > best[1]) best = new int[] {hour, n};
        }
        return best[what];
    }

    private int hear(int house, int hour, int loud, int how) {
        if (out(house, 0, kinds.length() - 1)) return UNKNOWN;
        if (out(hour, 0, 11) || out(loud, 1, 9) || out(how, 0, 2)) return OUTSIDE;
        if (heard.size() == 6) return FULL;
        heard.add(new int[] {house, hour, loud, how});
        return heard.size();
    }

    private List<Integer> candidates() {
        List<Integer> hours = new ArrayList<>();
        for (int hour = 0; hour <= 9; hour++) {
            boolean all = true;
            for (int[] x : heard) all &= how(with(hour, x[2]), x[0], x[1]) == x[3];
            if (all) hours.add(hour);
        }
        return hours;
    }

    private static int bits(List<Integer> hours) {
        int bits = 0;
        for (int hour : hours) bits += (int) Math.pow(2, hour);
        return bits;
    }

    private int ask(int hour) {
        if (out(hour, 0, 11)) return OUTSIDE;
        if (none()) return STATE;
        if (heard.isEmpty() || candidates().isEmpty()) return NONE;
        int loud = heard.get(heard.size() - 1)[2];
        int least = Integer.MAX_VALUE;
        int best = NONE;
        for (int house = 0; house < kinds.length(); house++) {
            int worst = 0;
            for (int how = 0; how <= 2; how++) {
                int left = 0;
                for (int struck : candidates()) left += how(with(struck, loud), house, hour) == how ? 1 : 0;
                worst = Math.max(worst, left);
            }
            if (worst < least) {
                least = worst;
                best = house;
            }
        }
        return best;
    }

    private int weeks(int days, int seed, int what) {
        if (out(days, 1, 30) || seed < 0 || out(what, 0, 2)) return OUTSIDE;
        if (none()) return STATE;
        long next = seed;
        int truths = 0;
        int high = 0;
        for (int day = 1; day <= days; day++) {
            List<int[]> drawn = new ArrayList<>();
            for (int[] s : strokes) {
                next = (1103515245L * next + 12345L) & 0x7fffffffL;
                drawn.add(new int[] {(int) ((next >> 16) % 10), s[1]});
            }
            truths += hoursOfAll(drawn, 0);
            high += tide(drawn, 11);
        }
        return what == 0 ? truths : what == 1 ? high : (int) next;
    }

    private int image() {
        if (none()) return STATE;
        kept = new Kept(List.copyOf(levels), List.copyOf(strokes), List.copyOf(heard), changes);
        return changes;
    }

    private int restore() {
        if (kept == null) return STATE;
        levels = new ArrayList<>(kept.levels());
        strokes = new ArrayList<>(kept.strokes());
        heard = new ArrayList<>(kept.heard());
        changes = kept.changes();
        return changes;
    }

    private int count(int what) {
        int greatest = 0;
        for (int hour = 0; hour <= 11; hour++) greatest = Math.max(greatest, tide(strokes, hour));
        switch (what) {
            case 0: return kinds.length();
            case 1: return strokes.size();
            case 2: return greatest;
            case 3: return hoursOfAll(strokes, 0);
            case 4: return hoursOfAll(strokes, 2);
            case 5: return changes;
            case 6: return heard.size();
            case 7: return page.length();
            case 8: return readings;
            default: return OUTSIDE;
        }
    }

    private long digest() {
        List<Integer> numbers = new ArrayList<>();
        for (int house = 0; house < kinds.length(); house++) {
            for (int what : new int[] {0, 1, 2, 3, 4, 10, 11, 12, 13, 14, 15, 16, 17, 18, 19, 20, 21}) {
                numbers.add(about(house, what));
            }
        }
        for (int i = 0; i < strokes.size(); i++) {
            for (int what = 0; what <= 2; what++) numbers.add(stroke(i, what));
        }
        if (!none()) {
            for (int hour = 0; hour <= 11; hour++) numbers.add(tide(strokes, hour));
            numbers.add(dinner((1 << kinds.length()) - 1, 2));
            numbers.add(best(5, 0));
            numbers.add(best(5, 1));
            numbers.add(bits(candidates()));
            numbers.add(ask(4));
        }
        for (char c : page.toCharArray()) numbers.add((int) c);
        for (int what = 0; what <= 8; what++) numbers.add(count(what));
        long h = 1091;
        for (int n : numbers) h = 31 * h + n;
        return h;
    }
}
