/**
 * A river colony that behaves by a gong on the jetty: its strokes raise a tide
 * of manners, which ebbs, and each house stands at a level of its own in it.
 */
public final class GongTide {
    public static final int NONE = -1, UNKNOWN = -101, OUTSIDE = -102, STATE = -103, FULL = -104;

    private static final int HOUSE = 0, LOW = 1, OLD = 2, DEAF = 3, CREEK = 4;
    private static final int KINDS = 5;

    private static final int TRUTH = 0, POLITE = 1, LOVE = 2;
    private static final int MANNERS_OF_LOVE = 5;

    private static final int DAY_HOURS = 12;
    private static final int STROKE_HOURS = 10;
    private static final int GREATEST_DIGIT = 9;
    private static final int GREATEST_TIDE = 20;
    private static final int EBB = 2;
    private static final int LOW_SIDE = 3;
    private static final int CALENDAR_MANNERS = 3;

    private static final int LEAST_HOUSES = 2, MOST_HOUSES = 5;
    private static final int HOUSE_LETTERS = 3;
    private static final int MOST_READ_STROKES = 4, MOST_STROKES = 6;
    private static final int STROKE_LETTERS = 2;
    private static final int MOST_HEARD = 6;
    private static final int MOST_LETTERS = 25;
    private static final int LEAST_CODE = 32, GREATEST_CODE = 126;
    private static final int LONGEST_DINNER = 6;
    private static final int MOST_DAYS = 30;
    private static final int FIRST_MANNERS = 10;

    private static final long DRAW_FACTOR = 1103515245L, DRAW_SUMMAND = 12345L, DRAW_SEEDS = 2147483648L;
    private static final int DRAW_DIVISOR = 65536;

    private static final long DIGEST_START = 1091L, DIGEST_FACTOR = 31L;

    private final Page page = new Page();
    private final int[] kinds = new int[MOST_HOUSES];
    private int houseCount;
    private int readings;
    private final Affairs affairs = new Affairs();
    private final Affairs kept = new Affairs();
    private boolean isKept;
    // Made once and filled anew by each call, so that no call makes anything.
    private final Tide now = new Tide();
    private final Tide supposed = new Tide();

    public GongTide() {
    }

    // ---- the colony

    public int letter(int code) {
        if (!isWithin(code, LEAST_CODE, GREATEST_CODE)) {
            return OUTSIDE;
        }
        return page.write(code) ? page.size() : FULL;
    }

    public int blank() {
        return page.wipe();
    }

    public int fault() {
        return page.soundLetters();
    }

    public int colony() {
        if (!page.tellsColony()) {
            return STATE;
        }
        houseCount = page.houses();
        affairs.clear();
        for (int house = 0; house < houseCount && house < MOST_HOUSES; house++) {
            kinds[house] = kindOf(page.at(HOUSE_LETTERS * house));
            affairs.setLevel(house, page.digitAt(HOUSE_LETTERS * house + 1));
        }
        int start = HOUSE_LETTERS * houseCount;
        for (int place = start; place + 1 < page.size(); place += STROKE_LETTERS) {
            affairs.strokes.add(page.digitAt(place), page.digitAt(place + 1));
        }
        isKept = false;
        readings++;
        page.wipe();
        return houseCount;
    }

    // ---- houses

    public int about(int house, int what) {
        if (!isHouse(house)) {
            return UNKNOWN;
        }
        if (!isWithin(what, 0, 4) && !isWithin(what, FIRST_MANNERS, FIRST_MANNERS + DAY_HOURS - 1)) {
            return OUTSIDE;
        }
        Tide tide = tideNow();
        switch (what) {
            case 0:
                return kindAt(house);
            case 1:
                return affairs.level(house);
            case 2:
                return hoursOf(TRUTH, house, tide);
            case 3:
                return mannersAt(house, tide, hourOfMostManners(house, tide));
            case 4:
                return hourOfMostManners(house, tide);
            default:
                return mannersAt(house, tide, what - FIRST_MANNERS);
        }
    }

    public int as(int house, int kind) {
        if (!isHouse(house)) {
            return UNKNOWN;
        }
        if (!isWithin(kind, 0, KINDS - 1)) {
            return OUTSIDE;
        }
        int own = kindAt(house);
        boolean holds = kind == HOUSE || kind == own || kind == LOW && own == CREEK;
        return holds ? house : NONE;
    }

    public int raise(int house, int level) {
        if (!isHouse(house)) {
            return UNKNOWN;
        }
        if (!isWithin(level, 0, GREATEST_DIGIT)) {
            return OUTSIDE;
        }
        int before = affairs.level(house);
        affairs.setLevel(house, level);
        affairs.changes++;
        return before;
    }

    // ---- strokes

    public int tide(int hour) {
        if (!isHourOfDay(hour)) {
            return OUTSIDE;
        }
        return hasColony() ? tideNow().at(hour) : STATE;
    }

    public int strike(int hour, int loud) {
        if (!isWithin(hour, 0, STROKE_HOURS - 1) || !isHeardLoud(loud)) {
            return OUTSIDE;
        }
        if (!hasColony()) {
            return STATE;
        }
        if (!affairs.strokes.add(hour, loud)) {
            return FULL;
        }
        affairs.changes++;
        return affairs.strokes.size() - 1;
    }

    public int felt(int stroke, int loud) {
        if (!affairs.strokes.has(stroke)) {
            return UNKNOWN;
        }
        if (!isWithin(loud, 0, GREATEST_DIGIT)) {
            return OUTSIDE;
        }
        int before = affairs.strokes.loud(stroke);
        affairs.strokes.setLoud(stroke, loud);
        affairs.changes++;
        return before;
    }

    public int stroke(int stroke, int what) {
        if (!affairs.strokes.has(stroke)) {
            return UNKNOWN;
        }
        switch (what) {
            case 0:
                return affairs.strokes.hour(stroke);
            case 1:
                return affairs.strokes.loud(stroke);
            case 2:
                return affairs.strokes.goneAt(stroke);
            default:
                return OUTSIDE;
        }
    }

    // ---- what would be

    public int dinner(int houses, int hours) {
        if (!isWithin(houses, 1, allHouses()) || !isWithin(hours, 1, LONGEST_DINNER)) {
            return OUTSIDE;
        }
        Tide tide = tideNow();
        for (int start = 0; start + hours <= DAY_HOURS; start++) {
            if (canDine(houses, tide, start, start + hours)) {
                return start;
            }
        }
        return NONE;
    }

    public int best(int loud, int what) {
        if (!isHeardLoud(loud) || !isWithin(what, 0, 1)) {
            return OUTSIDE;
        }
        if (!hasColony()) {
            return STATE;
        }
        Tide tide = tideNow();
        int bestHour = NONE;
        int most = NONE;
        for (int hour = 0; hour < STROKE_HOURS; hour++) {
            int quiet = DAY_HOURS * houseCount - hoursOfAll(TRUTH, suppose(tide, hour, loud));
            if (quiet > most) {
                most = quiet;
                bestHour = hour;
            }
        }
        return what == 0 ? bestHour : most;
    }

    // ---- what is heard

    public int hear(int house, int hour, int loud, int how) {
        if (!isHouse(house)) {
            return UNKNOWN;
        }
        if (!isHourOfDay(hour) || !isHeardLoud(loud) || !isWithin(how, TRUTH, LOVE)) {
            return OUTSIDE;
        }
        return affairs.heard.add(house, hour, loud, how) ? affairs.heard.size() : FULL;
    }

    public int forget() {
        return affairs.heard.clear();
    }

    public int hours() {
        if (!hasColony()) {
            return STATE;
        }
        Tide tide = tideNow();
        int bits = 0;
        for (int hour = 0; hour < STROKE_HOURS; hour++) {
            if (agreesWithHeard(tide, hour)) {
                bits |= 1 << hour;
            }
        }
        return bits;
    }

    public int ask(int hour) {
        if (!isHourOfDay(hour)) {
            return OUTSIDE;
        }
        if (!hasColony()) {
            return STATE;
        }
        int struck = hours();
        if (struck == 0 || affairs.heard.size() == 0) {
            return NONE;
        }
        Tide tide = tideNow();
        int bestHouse = NONE;
        int fewest = STROKE_HOURS + 1;
        for (int house = 0; house < houseCount; house++) {
            int left = mostLeft(struck, tide, house, hour);
            if (left < fewest) {
                fewest = left;
                bestHouse = house;
            }
        }
        return bestHouse;
    }

    public int weeks(int days, int seed, int what) {
        if (!isWithin(days, 1, MOST_DAYS) || seed < 0 || !isWithin(what, 0, 2)) {
            return OUTSIDE;
        }
        if (!hasColony()) {
            return STATE;
        }
        int next = seed;
        int truths = 0;
        int lastTides = 0;
        for (int day = 0; day < days; day++) {
            next = drawDay(next);
            truths += hoursOfAll(TRUTH, supposed);
            lastTides += supposed.at(DAY_HOURS - 1);
        }
        switch (what) {
            case 0:
                return truths;
            case 1:
                return lastTides;
            default:
                return next;
        }
    }

    // ---- what is told of all

    public int image() {
        if (!hasColony()) {
            return STATE;
        }
        kept.copyFrom(affairs);
        isKept = true;
        return affairs.changes;
    }

    public int restore() {
        if (!isKept) {
            return STATE;
        }
        affairs.copyFrom(kept);
        return affairs.changes;
    }

    public int count(int what) {
        switch (what) {
            case 0:
                return houseCount;
            case 1:
                return affairs.strokes.size();
            case 2:
                return tideNow().greatest();
            case 3:
                return hoursOfAll(TRUTH, tideNow());
            case 4:
                return hoursOfAll(LOVE, tideNow());
            case 5:
                return affairs.changes;
            case 6:
                return affairs.heard.size();
            case 7:
                return page.size();
            case 8:
                return readings;
            default:
                return OUTSIDE;
        }
    }

    public long digest() {
        long h = digestHouses(DIGEST_START);
        h = digestStrokes(h);
        if (hasColony()) {
            for (int hour = 0; hour < DAY_HOURS; hour++) {
                h = mix(h, tide(hour));
            }
            h = mix(h, dinner(allHouses(), 2));
            h = mix(h, best(5, 0));
            h = mix(h, best(5, 1));
            h = mix(h, hours());
            h = mix(h, ask(4));
        }
        for (int place = 0; place < page.size(); place++) {
            h = mix(h, page.at(place));
        }
        for (int what = 0; what <= 8; what++) {
            h = mix(h, count(what));
        }
        return h;
    }

    private long digestHouses(long start) {
        long h = start;
        for (int house = 0; house < houseCount; house++) {
            for (int what = 0; what <= 4; what++) {
                h = mix(h, about(house, what));
            }
            for (int hour = 0; hour < DAY_HOURS; hour++) {
                h = mix(h, about(house, FIRST_MANNERS + hour));
            }
        }
        return h;
    }

    private long digestStrokes(long start) {
        long h = start;
        for (int stroke = 0; stroke < affairs.strokes.size(); stroke++) {
            for (int what = 0; what <= 2; what++) {
                h = mix(h, stroke(stroke, what));
            }
        }
        return h;
    }

    private static long mix(long h, long number) {
        return DIGEST_FACTOR * h + number;
    }

    // ---- tests of arguments

    private static boolean isWithin(int number, int least, int greatest) {
        return number >= least && number <= greatest;
    }

    private static boolean isHourOfDay(int hour) {
        return isWithin(hour, 0, DAY_HOURS - 1);
    }

    private static boolean isHeardLoud(int loud) {
        return isWithin(loud, 1, GREATEST_DIGIT);
    }

    private boolean hasColony() {
        return houseCount > 0;
    }

    private boolean isHouse(int house) {
        return isWithin(house, 0, houseCount - 1);
    }

    private int allHouses() {
        return (1 << houseCount) - 1;
    }

    private int kindAt(int house) {
        return isWithin(house, 0, MOST_HOUSES - 1) ? kinds[house] : HOUSE;
    }

    // ---- letters

    private static int kindOf(int code) {
        switch (code) {
            case 'h':
                return HOUSE;
            case 'l':
                return LOW;
            case 'o':
                return OLD;
            case 'd':
                return DEAF;
            case 'c':
                return CREEK;
            default:
                return NONE;
        }
    }

    // ---- tides

    private Tide tideNow() {
        now.clear();
        Strokes strokes = affairs.strokes;
        for (int stroke = 0; stroke < strokes.size(); stroke++) {
            now.add(strokes.hour(stroke), strokes.loud(stroke));
        }
        return now;
    }

    private Tide suppose(Tide tide, int hour, int loud) {
        supposed.copyFrom(tide);
        supposed.add(hour, loud);
        return supposed;
    }

    /** Fills the supposed tide with a day of drawn hours; answers the seed then. */
    private int drawDay(int seed) {
        int next = seed;
        Strokes strokes = affairs.strokes;
        supposed.clear();
        for (int stroke = 0; stroke < strokes.size(); stroke++) {
            next = (int) ((DRAW_FACTOR * next + DRAW_SUMMAND) % DRAW_SEEDS);
            supposed.add(next / DRAW_DIVISOR % STROKE_HOURS, strokes.loud(stroke));
        }
        return next;
    }

    // ---- manners

    private int mannersAt(int house, Tide tide, int hour) {
        int level = affairs.level(house);
        int lowLevel = Math.max(0, level - LOW_SIDE);
        switch (kindAt(house)) {
            case LOW:
                return above(lowLevel, tide.at(hour));
            case CREEK:
                return above(lowLevel, tide.at(hour - 1));
            case OLD:
                return above(level, Math.min(tide.at(hour), tide.at(hour - 1)));
            case DEAF:
                return hour % 2 == 0 ? CALENDAR_MANNERS : 0;
            default:
                return above(level, tide.at(hour));
        }
    }

    private static int above(int level, int height) {
        return Math.max(0, height - level);
    }

    /** How it is at such manners: TRUTH, POLITE or LOVE. */
    private static int howAt(int manners) {
        if (manners == 0) {
            return TRUTH;
        }
        return manners < MANNERS_OF_LOVE ? POLITE : LOVE;
    }

    private int hoursOf(int how, int house, Tide tide) {
        int count = 0;
        for (int hour = 0; hour < DAY_HOURS; hour++) {
            if (howAt(mannersAt(house, tide, hour)) == how) {
                count++;
            }
        }
        return count;
    }

    private int hoursOfAll(int how, Tide tide) {
        int count = 0;
        for (int house = 0; house < houseCount; house++) {
            count += hoursOf(how, house, tide);
        }
        return count;
    }

    private int hourOfMostManners(int house, Tide tide) {
        int best = 0;
        for (int hour = 1; hour < DAY_HOURS; hour++) {
            if (mannersAt(house, tide, hour) > mannersAt(house, tide, best)) {
                best = hour;
            }
        }
        return best;
    }

    private boolean canDine(int houses, Tide tide, int start, int end) {
        for (int house = 0; house < houseCount; house++) {
            boolean dines = (houses >> house & 1) == 1;
            for (int hour = start; dines && hour < end; hour++) {
                if (howAt(mannersAt(house, tide, hour)) == TRUTH) {
                    return false;
                }
            }
        }
        return true;
    }

    // ---- what follows from what is heard

    private boolean agreesWithHeard(Tide tide, int struckAt) {
        Heard heard = affairs.heard;
        for (int i = 0; i < heard.size(); i++) {
            Tide then = suppose(tide, struckAt, heard.loud(i));
            int manners = mannersAt(heard.house(i), then, heard.hour(i));
            if (howAt(manners) != heard.how(i)) {
                return false;
            }
        }
        return true;
    }

    /** How many of the struck hours (bits) the worst answer of a house leaves. */
    private int mostLeft(int struck, Tide tide, int house, int hour) {
        int loud = affairs.heard.lastLoud();
        int truths = 0;
        int polites = 0;
        int loves = 0;
        for (int struckAt = 0; struckAt < STROKE_HOURS; struckAt++) {
            if ((struck >> struckAt & 1) == 0) {
                continue;
            }
            switch (howAt(mannersAt(house, suppose(tide, struckAt, loud), hour))) {
                case TRUTH:
                    truths++;
                    break;
                case POLITE:
                    polites++;
                    break;
                default:
                    loves++;
                    break;
            }
        }
        return Math.max(truths, Math.max(polites, loves));
    }

    /** The letters that a colony is read from. */
    private static final class Page {
        private final int[] codes = new int[MOST_LETTERS];
        private int size;

        int size() {
            return size;
        }

        boolean write(int code) {
            if (size >= MOST_LETTERS) {
                return false;
            }
            codes[size] = code;
            size++;
            return true;
        }

        int wipe() {
            int before = size;
            size = 0;
            return before;
        }

        int at(int place) {
            return isWithin(place, 0, size - 1) ? codes[place] : NONE;
        }

        int digitAt(int place) {
            return at(place) - '0';
        }

        /** How many letters from the first one on some colony has in these places. */
        int soundLetters() {
            int houses = houses();
            int housesEnd = houses == NONE ? size : HOUSE_LETTERS * houses;
            for (int place = 0; place < size; place++) {
                boolean isSound = place < housesEnd
                        ? suitsHouses(place, at(place))
                        : suitsStrokes(place - housesEnd, at(place));
                if (!isSound) {
                    return place;
                }
            }
            return size;
        }

        boolean tellsColony() {
            int houses = houses();
            if (houses == NONE || soundLetters() < size) {
                return false;
            }
            int strokeLetters = size - HOUSE_LETTERS * houses;
            return strokeLetters > 0 && strokeLetters % STROKE_LETTERS == 0;
        }

        /** How many houses end before the first ';' that stands where one can; NONE without it. */
        int houses() {
            for (int houses = LEAST_HOUSES; houses <= MOST_HOUSES; houses++) {
                if (at(HOUSE_LETTERS * houses - 1) == ';') {
                    return houses;
                }
            }
            return NONE;
        }

        private static boolean suitsHouses(int place, int code) {
            int house = place / HOUSE_LETTERS;
            switch (place % HOUSE_LETTERS) {
                case 0:
                    return kindOf(code) != NONE;
                case 1:
                    return isWithin(code, '0', '9');
                default:
                    return code == ',' && house < MOST_HOUSES - 1
                            || code == ';' && house >= LEAST_HOUSES - 1;
            }
        }

        private static boolean suitsStrokes(int place, int code) {
            if (place >= STROKE_LETTERS * MOST_READ_STROKES) {
                return false;
            }
            char least = place % STROKE_LETTERS == 0 ? '0' : '1';
            return isWithin(code, least, '9');
        }
    }

    /** How high it stands at each hour of a day. */
    private static final class Tide {
        private final int[] sums = new int[DAY_HOURS];

        void clear() {
            for (int hour = 0; hour < DAY_HOURS; hour++) {
                sums[hour] = 0;
            }
        }

        void add(int struckAt, int loud) {
            int left = loud;
            for (int hour = Math.max(0, struckAt); hour < DAY_HOURS && left > 0; hour++) {
                sums[hour] += left;
                left -= EBB;
            }
        }

        void copyFrom(Tide other) {
            for (int hour = 0; hour < DAY_HOURS; hour++) {
                sums[hour] = other.sums[hour];
            }
        }

        /** 0 before the day, as a creek and old people ask for the hour before. */
        int at(int hour) {
            if (hour < 0 || hour >= DAY_HOURS) {
                return 0;
            }
            return Math.min(GREATEST_TIDE, sums[hour]);
        }

        int greatest() {
            int greatest = 0;
            for (int hour = 0; hour < DAY_HOURS; hour++) {
                greatest = Math.max(greatest, at(hour));
            }
            return greatest;
        }
    }

    /** The strokes of a day, by their numbers. */
    private static final class Strokes {
        private final int[] hours = new int[MOST_STROKES];
        private final int[] louds = new int[MOST_STROKES];
        private int size;

        int size() {
            return size;
        }

        void clear() {
            size = 0;
        }

        boolean has(int stroke) {
            return isWithin(stroke, 0, size - 1);
        }

        boolean add(int hour, int loud) {
            if (size >= MOST_STROKES) {
                return false;
            }
            hours[size] = hour;
            louds[size] = loud;
            size++;
            return true;
        }

        int hour(int stroke) {
            return has(stroke) ? hours[stroke] : 0;
        }

        int loud(int stroke) {
            return has(stroke) ? louds[stroke] : 0;
        }

        void setLoud(int stroke, int loud) {
            if (has(stroke)) {
                louds[stroke] = loud;
            }
        }

        int goneAt(int stroke) {
            int gone = hour(stroke) + (loud(stroke) + EBB - 1) / EBB;
            return gone < DAY_HOURS ? gone : NONE;
        }

        void copyFrom(Strokes other) {
            size = other.size;
            for (int i = 0; i < MOST_STROKES; i++) {
                hours[i] = other.hours[i];
                louds[i] = other.louds[i];
            }
        }
    }

    /** What was heard of one more stroke, in the order in which it was told. */
    private static final class Heard {
        private final int[] houses = new int[MOST_HEARD];
        private final int[] hours = new int[MOST_HEARD];
        private final int[] louds = new int[MOST_HEARD];
        private final int[] hows = new int[MOST_HEARD];
        private int size;

        int size() {
            return size;
        }

        int clear() {
            int before = size;
            size = 0;
            return before;
        }

        boolean add(int house, int hour, int loud, int how) {
            if (size >= MOST_HEARD) {
                return false;
            }
            houses[size] = house;
            hours[size] = hour;
            louds[size] = loud;
            hows[size] = how;
            size++;
            return true;
        }

        private boolean has(int i) {
            return isWithin(i, 0, size - 1);
        }

        int house(int i) {
            return has(i) ? houses[i] : 0;
        }

        int hour(int i) {
            return has(i) ? hours[i] : 0;
        }

        int loud(int i) {
            return has(i) ? louds[i] : 0;
        }

        int how(int i) {
            return has(i) ? hows[i] : TRUTH;
        }

        int lastLoud() {
            return loud(size - 1);
        }

        void copyFrom(Heard other) {
            size = other.size;
            for (int i = 0; i < MOST_HEARD; i++) {
                houses[i] = other.houses[i];
                hours[i] = other.hours[i];
                louds[i] = other.louds[i];
                hows[i] = other.hows[i];
            }
        }
    }

    /** All of a colony that calls change: what an image keeps. */
    private static final class Affairs {
        private final int[] levels = new int[MOST_HOUSES];
        final Strokes strokes = new Strokes();
        final Heard heard = new Heard();
        int changes;

        void clear() {
            strokes.clear();
            heard.clear();
            changes = 0;
        }

        int level(int house) {
            return isWithin(house, 0, MOST_HOUSES - 1) ? levels[house] : 0;
        }

        void setLevel(int house, int level) {
            if (isWithin(house, 0, MOST_HOUSES - 1)) {
                levels[house] = level;
            }
        }

        void copyFrom(Affairs other) {
            for (int house = 0; house < MOST_HOUSES; house++) {
                levels[house] = other.levels[house];
            }
            strokes.copyFrom(other.strokes);
            heard.copyFrom(other.heard);
            changes = other.changes;
        }
    }
}
