import java.util.Arrays;

/**
 * Passports for the weather: fields in a row, posts of kinds between them that let so much
 * rain by, days of rain, sheets of numbers that tell lands and plans.
 *
 * <p>All rows are made once, with the object, and used again: no call makes an object.
 */
public final class WeatherPass {
    public static final int UNKNOWN = -1, OUTSIDE = -2, STATE = -3, FULL = -4, NONE = -9;
    public static final long LOST = Long.MIN_VALUE;

    private static final int NO_FAULT = 0, FAULT_NULL = 1, FAULT_CAST = 2, FAULT_INDEX = 3, FAULT_SIZE = 4;
    private static final int BEFORE_FAULTS = -10, BEFORE_TEXT_FAULTS = -100;

    private static final int POST = 0, CUSTOMS = 1, FREE = 2;
    private static final int POST_TELLS = 1, CUSTOMS_TELLS = 2, FREE_TELLS = 3, LENT_STAMPS = 4, FREE_STAMPS = 5;

    private static final int BYTES = 0, SHORTS = 1, INTS = 2, NOTHING = -1;

    private static final int MOST_FIELDS = 6, MOST_POSTS = 5, MOST_DAYS = 8, MOST_READINGS = 8;
    private static final int SHEETS = 4, MOST_CELLS = 60;
    private static final int HIGHEST_DIGIT = 9, HIGHEST_MUCH = 99;
    private static final int NO_POSTS = 0;

    private final Sheets sheets;
    private final Land land;
    private final Weather weather;
    private final Readings readings;
    private final int[] taken;
    private int trace;
    private int latestFault;

    public WeatherPass() {
        sheets = new Sheets();
        land = new Land();
        weather = new Weather();
        readings = new Readings();
        taken = new int[MOST_CELLS];
        trace = 0;
        latestFault = NO_FAULT;
    }

    // ---- 1 the land

    public int land(int sheet, int lane, int i, int n) {
        latestFault = NO_FAULT;
        if (!isSheet(sheet)) {
            return UNKNOWN;
        }
        if (!isLane(lane)) {
            return OUTSIDE;
        }
        latestFault = sheets.faultOfCells(sheet, lane, i, n);
        if (latestFault != NO_FAULT) {
            return BEFORE_FAULTS - latestFault;
        }
        sheets.read(sheet, i, n, taken);
        int wrong = Text.firstFault(taken, n);
        if (wrong != NONE) {
            return BEFORE_TEXT_FAULTS - wrong;
        }
        land.become(taken, n);
        readings.count = 0;
        return land.posts();
    }

    public int ofField(int f, int what) {
        if (!land.hasField(f)) {
            return UNKNOWN;
        }
        if (what == 0) {
            return land.needs[f];
        }
        return what == 1 ? land.holds[f] : OUTSIDE;
    }

    public int ofPost(int p, int what) {
        if (!land.hasPost(p)) {
            return UNKNOWN;
        }
        if (what == 0) {
            return land.kinds[p];
        }
        return what == 1 ? land.limits[p] : OUTSIDE;
    }

    public int lets(int p, int much) {
        if (!land.hasPost(p)) {
            return UNKNOWN;
        }
        if (much < 0 || much > HIGHEST_MUCH) {
            return OUTSIDE;
        }
        return land.letBy(p, much);
    }

    public int limit(int p, int v) {
        if (!land.hasPost(p)) {
            return UNKNOWN;
        }
        if (!isDigit(v)) {
            return OUTSIDE;
        }
        int was = land.limits[p];
        land.limits[p] = v;
        return was;
    }

    public int rain(int day, int v) {
        if (!land.exists()) {
            return STATE;
        }
        if (!land.hasDay(day) || !isDigit(v)) {
            return OUTSIDE;
        }
        int was = land.rains[day];
        land.rains[day] = v;
        return was;
    }

    // ---- 2 days

    public int wet(int f, int t) {
        if (!land.hasField(f)) {
            return UNKNOWN;
        }
        if (!land.hasBehind(t)) {
            return OUTSIDE;
        }
        blow(t, NO_POSTS, NO_POSTS);
        return weather.wets[f];
    }

    public int fell(int f, int t) {
        if (!land.hasField(f)) {
            return UNKNOWN;
        }
        if (!land.hasBehind(t)) {
            return OUTSIDE;
        }
        blow(t, NO_POSTS, NO_POSTS);
        return weather.falls[f];
    }

    public int flood(int what) {
        if (what != 0 && what != 1) {
            return OUTSIDE;
        }
        if (!land.exists()) {
            return STATE;
        }
        blow(land.days, NO_POSTS, NO_POSTS);
        return what == 0 ? weather.firstDay : weather.firstField;
    }

    public int enough() {
        if (!land.exists()) {
            return STATE;
        }
        blow(land.days, NO_POSTS, NO_POSTS);
        return weather.contented(land);
    }

    public int plan(int sheet, int lane, int i, int n, int what) {
        latestFault = NO_FAULT;
        if (!isSheet(sheet)) {
            return UNKNOWN;
        }
        if (!isLane(lane) || !isAskedOfPlan(what)) {
            return OUTSIDE;
        }
        latestFault = sheets.faultOfCells(sheet, lane, i, n);
        if (latestFault != NO_FAULT) {
            return BEFORE_FAULTS - latestFault;
        }
        if (!land.exists()) {
            return STATE;
        }
        if (n != land.days) {
            return OUTSIDE;
        }
        sheets.read(sheet, i, n, taken);
        return areSetsOfPosts(n) ? ofPlan(what) : OUTSIDE;
    }

    // ---- 3 papers

    public int papers() {
        if (!land.exists()) {
            return STATE;
        }
        int best = NONE;
        for (int set = 0; set < land.setsOfPosts(); set++) {
            blow(land.days, set, NO_POSTS);
            if (weather.floods == 0 && isFewer(set, best)) {
                best = set;
            }
        }
        return best;
    }

    public int most() {
        if (!land.exists()) {
            return STATE;
        }
        int best = NONE;
        int bestFields = -1;
        for (int set = 0; set < land.setsOfPosts(); set++) {
            blow(land.days, set, NO_POSTS);
            int fields = Integer.bitCount(weather.contented(land));
            if (fields > bestFields || fields == bestFields && isFewer(set, best)) {
                best = set;
                bestFields = fields;
            }
        }
        return best;
    }

    public int shut(int f) {
        if (!land.hasField(f)) {
            return UNKNOWN;
        }
        int best = NONE;
        for (int set = 0; set < land.setsOfPosts(); set++) {
            blow(land.days, NO_POSTS, set);
            if (!isIn(weather.flooded, f) && isFewer(set, best)) {
                best = set;
            }
        }
        return best;
    }

    // ---- 4 how wet it was

    public int reading(int f, int t, int v) {
        if (!land.hasField(f)) {
            return UNKNOWN;
        }
        if (!land.hasBehind(t) || v < 0 || v > HIGHEST_MUCH) {
            return OUTSIDE;
        }
        if (readings.count >= MOST_READINGS) {
            return FULL;
        }
        return readings.keep(f, t, v);
    }

    public int back(int k) {
        if (k < 0 || k > readings.count) {
            return OUTSIDE;
        }
        readings.count -= k;
        return readings.count;
    }

    public int limits(int p) {
        if (!land.hasPost(p)) {
            return UNKNOWN;
        }
        return fitting(land.limits, p, HIGHEST_DIGIT);
    }

    public int kinds(int p) {
        if (!land.hasPost(p)) {
            return UNKNOWN;
        }
        return fitting(land.kinds, p, FREE);
    }

    public int rains(int day) {
        if (!land.exists()) {
            return STATE;
        }
        if (!land.hasDay(day)) {
            return OUTSIDE;
        }
        return fitting(land.rains, day, HIGHEST_DIGIT);
    }

    public long odds(int f, int which) {
        if (!land.hasField(f)) {
            return LOST;
        }
        if (which != 0 && which != 1) {
            return LOST;
        }
        int upper = setsOfDaysThatFlood(f);
        int lower = 1 << land.days;
        // The lower number is a power of two, so nothing but two can be common to both.
        for (int k = 0; k < land.days && (upper & 1) == 0; k++) {
            upper >>= 1;
            lower >>= 1;
        }
        return which == 0 ? upper : lower;
    }

    // ---- 5 sheets, parts

    public int sheet(int k, int lane, int n) {
        latestFault = NO_FAULT;
        if (!isSheet(k)) {
            return UNKNOWN;
        }
        if (!isLane(lane) || n > MOST_CELLS) {
            return OUTSIDE;
        }
        if (n < 0) {
            latestFault = FAULT_SIZE;
            return BEFORE_FAULTS - latestFault;
        }
        sheets.renew(k, lane, n);
        return 1;
    }

    public int lose(int k) {
        if (!isSheet(k)) {
            return UNKNOWN;
        }
        boolean had = !sheets.isNothing(k);
        sheets.renew(k, NOTHING, 0);
        return had ? 1 : 0;
    }

    public int put(int k, int i, int v) {
        latestFault = NO_FAULT;
        if (!isSheet(k)) {
            return UNKNOWN;
        }
        if (sheets.isNothing(k)) {
            latestFault = FAULT_NULL;
        } else if (!sheets.hasCell(k, i)) {
            latestFault = FAULT_INDEX;
        }
        if (latestFault != NO_FAULT) {
            return BEFORE_FAULTS - latestFault;
        }
        sheets.write(k, i, v);
        return 1;
    }

    public long cell(int k, int i, int lane) {
        latestFault = NO_FAULT;
        if (!isSheet(k) || !isLane(lane)) {
            return LOST;
        }
        latestFault = sheets.faultOfLane(k, lane);
        if (latestFault == NO_FAULT && !sheets.hasCell(k, i)) {
            latestFault = FAULT_INDEX;
        }
        return latestFault == NO_FAULT ? sheets.cells[k][i] : LOST;
    }

    public int copy(int k, int i, int other, int j, int n) {
        latestFault = NO_FAULT;
        if (!isSheet(k) || !isSheet(other)) {
            return UNKNOWN;
        }
        if (sheets.isNothing(k) || sheets.isNothing(other)) {
            latestFault = FAULT_NULL;
        } else if (sheets.lanes[k] != sheets.lanes[other]) {
            latestFault = FAULT_CAST;
        } else if (!sheets.hasCells(k, i, n) || !sheets.hasCells(other, j, n)) {
            latestFault = FAULT_INDEX;
        }
        if (latestFault != NO_FAULT) {
            return BEFORE_FAULTS - latestFault;
        }
        System.arraycopy(sheets.cells[k], i, sheets.cells[other], j, n);
        return n;
    }

    public int tell(int p) {
        if (!land.hasPost(p)) {
            return UNKNOWN;
        }
        switch (land.kinds[p]) {
            case FREE:
                return tellAsFree(p);
            case CUSTOMS:
                return tellAsCustoms(p);
            default:
                return tellAsPost(p);
        }
    }

    public int stamp(int p) {
        if (!land.hasPost(p)) {
            return UNKNOWN;
        }
        if (land.kinds[p] == FREE) {
            leave(FREE_STAMPS);
            return 30;
        }
        leave(LENT_STAMPS);
        return p;
    }

    public int as(int p, int kind) {
        latestFault = NO_FAULT;
        if (!land.hasPost(p)) {
            return UNKNOWN;
        }
        if (kind < POST || kind > FREE) {
            return OUTSIDE;
        }
        // Each kind is one of all kinds with lower numbers too.
        if (kind > land.kinds[p]) {
            latestFault = FAULT_CAST;
            return BEFORE_FAULTS - latestFault;
        }
        return 1;
    }

    public int trace() {
        return trace;
    }

    public int fault() {
        return latestFault;
    }

    public int many(int what) {
        switch (what) {
            case 0:
                return land.posts();
            case 1:
                return land.fields;
            case 2:
                return land.days;
            case 3:
                return readings.count;
            default:
                return OUTSIDE;
        }
    }

    // ---- what the calls are made of

    private static boolean isSheet(int k) {
        return k >= 0 && k < SHEETS;
    }

    private static boolean isLane(int lane) {
        return lane >= BYTES && lane <= INTS;
    }

    private static boolean isDigit(int v) {
        return v >= 0 && v <= HIGHEST_DIGIT;
    }

    private static boolean isIn(int set, int k) {
        return (set >> k & 1) == 1;
    }

    /** Sets are tried from the least on, so that of as many posts the set found first stays. */
    private static boolean isFewer(int set, int best) {
        return best == NONE || Integer.bitCount(set) < Integer.bitCount(best);
    }

    private static boolean isAskedOfPlan(int what) {
        return what >= 0 && what <= 3 || what >= 10 && what <= 15 || what >= 20 && what <= 25;
    }

    /** The first t days, with the same papers and the same closed posts on each. */
    private void blow(int t, int papers, int closed) {
        weather.begin();
        for (int day = 0; day < t; day++) {
            weather.pass(land, day, land.rains[day], papers, closed);
        }
    }

    private boolean areSetsOfPosts(int n) {
        for (int day = 0; day < n; day++) {
            if (taken[day] < 0 || taken[day] >= land.setsOfPosts()) {
                return false;
            }
        }
        return true;
    }

    private int ofPlan(int what) {
        weather.begin();
        for (int day = 0; day < land.days; day++) {
            weather.pass(land, day, land.rains[day], taken[day], NO_POSTS);
        }
        switch (what) {
            case 0:
                return weather.floods;
            case 1:
                return weather.firstDay;
            case 2:
                return weather.firstField;
            case 3:
                return weather.contented(land);
            default:
                return what < 20 ? ofPlanField(weather.wets, what - 10) : ofPlanField(weather.falls, what - 20);
        }
    }

    private int ofPlanField(int[] ofFields, int f) {
        return land.hasField(f) ? ofFields[f] : NONE;
    }

    /** The numbers 0 to highest by which all readings are so, each tried in place of row[k] alone. */
    private int fitting(int[] row, int k, int highest) {
        int was = row[k];
        int set = 0;
        for (int v = 0; v <= highest; v++) {
            row[k] = v;
            if (areReadingsSo()) {
                set |= 1 << v;
            }
        }
        row[k] = was;
        return set;
    }

    private boolean areReadingsSo() {
        weather.begin();
        boolean so = readings.areSo(0, weather.wets);
        for (int day = 0; day < land.days && so; day++) {
            weather.pass(land, day, land.rains[day], NO_POSTS, NO_POSTS);
            so = readings.areSo(day + 1, weather.wets);
        }
        return so;
    }

    private int setsOfDaysThatFlood(int f) {
        int count = 0;
        for (int set = 0; set < 1 << land.days; set++) {
            weather.begin();
            for (int day = 0; day < land.days; day++) {
                weather.pass(land, day, isIn(set, day) ? land.rains[day] : 0, NO_POSTS, NO_POSTS);
            }
            if (isIn(weather.flooded, f)) {
                count++;
            }
        }
        return count;
    }

    private void leave(int body) {
        trace = 31 * trace + body;
    }

    private int tellAsPost(int p) {
        leave(POST_TELLS);
        return land.limits[p];
    }

    private int tellAsCustoms(int p) {
        leave(CUSTOMS_TELLS);
        return tellAsPost(p) + 100;
    }

    private int tellAsFree(int p) {
        leave(FREE_TELLS);
        int customs = tellAsCustoms(p);
        return customs + tellAsPost(p);
    }

    /** What a text looks like: with the number of fields all places but those of the days are set. */
    private static final class Text {
        private static final int FIELDS_AT = 2;

        private Text() {
        }

        private static int bordersAt(int fields) {
            return FIELDS_AT + 3 * fields;
        }

        private static int rainsAt(int fields) {
            return bordersAt(fields) + 3 * (fields - 1) + 1;
        }

        private static int digit(int code) {
            return code - '0';
        }

        /** The first fault of the first n codes; NONE, if they are a text. */
        private static int firstFault(int[] codes, int n) {
            for (int place = 0; place < n; place++) {
                if (!goesOn(codes, place)) {
                    return place;
                }
            }
            boolean endsTooSoon = n < FIELDS_AT || n <= rainsAt(digit(codes[1]));
            return endsTooSoon ? n : NONE;
        }

        /** Whether a text goes on with the code at the place, if it does with all codes ahead of it. */
        private static boolean goesOn(int[] codes, int place) {
            int code = codes[place];
            if (place == 0) {
                return code == 'v';
            }
            if (place == 1) {
                return code >= '2' && code <= '6';
            }
            int fields = digit(codes[1]);
            int borders = bordersAt(fields);
            int rains = rainsAt(fields);
            if (place < borders) {
                return (place - FIELDS_AT) % 3 == 0 ? code == ',' : isDigit(digit(code));
            }
            if (place < rains - 1) {
                return goesOnInBorder(code, (place - borders) % 3);
            }
            if (place == rains - 1) {
                return code == ';';
            }
            return place < rains + MOST_DAYS && isDigit(digit(code));
        }

        private static boolean goesOnInBorder(int code, int part) {
            if (part == 0) {
                return code == '-';
            }
            return part == 1 ? kind(code) != NONE : isDigit(digit(code));
        }

        private static int kind(int letter) {
            switch (letter) {
                case 'p':
                    return POST;
                case 'c':
                    return CUSTOMS;
                case 'f':
                    return FREE;
                default:
                    return NONE;
            }
        }
    }

    /** The fields, posts and days that there are; none of them at first. */
    private static final class Land {
        private int fields;
        private int days;
        private final int[] needs = new int[MOST_FIELDS];
        private final int[] holds = new int[MOST_FIELDS];
        private final int[] kinds = new int[MOST_POSTS];
        private final int[] limits = new int[MOST_POSTS];
        private final int[] rains = new int[MOST_DAYS];

        private boolean exists() {
            return fields > 0;
        }

        private int posts() {
            return Math.max(0, fields - 1);
        }

        private int setsOfPosts() {
            return 1 << posts();
        }

        private boolean hasField(int f) {
            return f >= 0 && f < fields;
        }

        private boolean hasPost(int p) {
            return p >= 0 && p < posts();
        }

        private boolean hasDay(int day) {
            return day >= 0 && day < days;
        }

        private boolean hasBehind(int t) {
            return t >= 0 && t <= days;
        }

        /** The land of the first n codes, in which no fault was found. */
        private void become(int[] codes, int n) {
            fields = Text.digit(codes[1]);
            for (int f = 0; f < fields; f++) {
                int at = Text.FIELDS_AT + 3 * f;
                needs[f] = Text.digit(codes[at + 1]);
                holds[f] = Text.digit(codes[at + 2]);
            }
            for (int p = 0; p < posts(); p++) {
                int at = Text.bordersAt(fields) + 3 * p;
                kinds[p] = Text.kind(codes[at + 1]);
                limits[p] = Text.digit(codes[at + 2]);
            }
            int at = Text.rainsAt(fields);
            days = n - at;
            for (int day = 0; day < days; day++) {
                rains[day] = Text.digit(codes[at + day]);
            }
        }

        private int letBy(int p, int much) {
            int asPost = Math.min(limits[p], much);
            switch (kinds[p]) {
                case CUSTOMS:
                    return Math.max(0, asPost - 1);
                case FREE:
                    return Math.min(2 * asPost, much);
                default:
                    return asPost;
            }
        }

        /** What of so much goes on from a field to the next one, if there is one. */
        private int goesOn(int f, int much, int papers, int closed) {
            if (!hasPost(f) || isIn(closed, f)) {
                return 0;
            }
            return isIn(papers, f) ? much : letBy(f, much);
        }
    }

    /** What the days did to the fields, from the begin on, as they passed one by one. */
    private static final class Weather {
        private final int[] wets = new int[MOST_FIELDS];
        private final int[] falls = new int[MOST_FIELDS];
        private int floods;
        private int flooded;
        private int firstDay;
        private int firstField;

        private void begin() {
            Arrays.fill(wets, 0);
            Arrays.fill(falls, 0);
            floods = 0;
            flooded = 0;
            firstDay = NONE;
            firstField = NONE;
        }

        private void pass(Land land, int day, int rain, int papers, int closed) {
            int comes = rain;
            for (int f = 0; f < land.fields; f++) {
                int on = land.goesOn(f, comes, papers, closed);
                wets[f] = Math.max(0, wets[f] - 1) + comes - on;
                falls[f] += comes - on;
                if (wets[f] > land.holds[f]) {
                    floodOn(day, f);
                }
                comes = on;
            }
        }

        private void floodOn(int day, int f) {
            if (floods == 0) {
                firstDay = day;
                firstField = f;
            }
            floods++;
            flooded |= 1 << f;
        }

        /** The fields that have enough, as a set. */
        private int contented(Land land) {
            int set = 0;
            for (int f = 0; f < land.fields; f++) {
                if (falls[f] >= land.needs[f]) {
                    set |= 1 << f;
                }
            }
            return set;
        }
    }

    /** How wet fields were, in the order in which it was told. */
    private static final class Readings {
        private int count;
        private final int[] fields = new int[MOST_READINGS];
        private final int[] behinds = new int[MOST_READINGS];
        private final int[] wets = new int[MOST_READINGS];

        private int keep(int f, int t, int v) {
            int number = count;
            fields[number] = f;
            behinds[number] = t;
            wets[number] = v;
            count++;
            return number;
        }

        /** Whether all readings behind t days are so, if the fields are then as wet as told. */
        private boolean areSo(int t, int[] wetOfFields) {
            for (int k = 0; k < count; k++) {
                if (behinds[k] == t && wetOfFields[fields[k]] != wets[k]) {
                    return false;
                }
            }
            return true;
        }
    }

    /** Rows of numbers, each in a room that is large enough for all; of the lane NOTHING, if there is none. */
    private static final class Sheets {
        private final int[][] cells = new int[SHEETS][MOST_CELLS];
        private final int[] lanes = new int[SHEETS];
        private final int[] sizes = new int[SHEETS];

        private Sheets() {
            Arrays.fill(lanes, NOTHING);
        }

        private boolean isNothing(int k) {
            return lanes[k] == NOTHING;
        }

        private void renew(int k, int lane, int n) {
            lanes[k] = lane;
            sizes[k] = n;
            Arrays.fill(cells[k], 0);
        }

        private boolean hasCell(int k, int i) {
            return i >= 0 && i < sizes[k];
        }

        private boolean hasCells(int k, int i, int n) {
            // i + n could wrap.
            return i >= 0 && i <= sizes[k] && n >= 0 && n <= sizes[k] - i;
        }

        private void write(int k, int i, int v) {
            switch (lanes[k]) {
                case BYTES:
                    cells[k][i] = (byte) v;
                    break;
                case SHORTS:
                    cells[k][i] = (short) v;
                    break;
                default:
                    cells[k][i] = v;
                    break;
            }
        }

        private void read(int k, int i, int n, int[] into) {
            System.arraycopy(cells[k], i, into, 0, n);
        }

        private int faultOfLane(int k, int lane) {
            if (isNothing(k)) {
                return FAULT_NULL;
            }
            return lanes[k] == lane ? NO_FAULT : FAULT_CAST;
        }

        private int faultOfCells(int k, int lane, int i, int n) {
            int fault = faultOfLane(k, lane);
            if (fault != NO_FAULT) {
                return fault;
            }
            if (n < 0) {
                return FAULT_SIZE;
            }
            return hasCells(k, i, n) ? NO_FAULT : FAULT_INDEX;
        }
    }
}
