import java.util.Arrays;

/** The land: its text, what posts let by, promises 1 to 7. */
final class LandSentences extends Bench {
    private static final String DIGITS = "0123456789", KINDS = "pcf";
    private static final int[] WILD_CODES = {Integer.MIN_VALUE, Integer.MIN_VALUE + 48, -1, -118, 128, 255, 118 + 256,
        50 + 256, 44 + 256, 45 + 65536, 59 + 65536, 48 + 256, 112 + 256, 99 - 256, 102 - 65536, Integer.MAX_VALUE};

    private LandSentences() {
    }

    static void tell(Sentences s) {
        s.of("Terms");
        s.says("A LAND by a TEXT: v, a digit 2 .. 6 (FIELDS, numbered from 0 on from the west)",
            LandSentences::twoToSixFields);
        s.says("then for each FIELD: , and two digits 0 .. 9 (NEEDS, HOLDS)", LandSentences::partsOfFields);
        s.says("then for each border between two FIELDS, from the west on: - and a letter, a digit 0 .. 9 (POST, "
            + "numbered from 0 on: POST p is between FIELDS p and p + 1; its LIMIT)", LandSentences::partsOfBorders);
        s.says("then ; and 1 to 8 digits 0 .. 9 (RAIN of DAYS, numbered from 0 on).", LandSentences::oneToEightDays);
        s.says("FIRST FAULT: the place (from 0 on) of the first code with which no TEXT goes on",
            LandSentences::firstOfFaults);
        s.says("(the digit of a ninth DAY)", LandSentences::ninthDay);
        s.says("how many codes there are, if it just ends too soon.", LandSentences::endsTooSoon);
        s.says("(Codes: v 118, p 112, c 99, f 102, comma 44, - 45, ; 59, digits 48 .. 57.)", LandSentences::codes);
        s.says("Kinds: 0 POST (p); 1 CUSTOMS (c), a POST; 2 FREE one (f), a CUSTOMS.", LandSentences::kinds);
        s.says("A TEXT that is taken makes all anew: no READINGS.", LandSentences::allAnew);
        s.says("LETS by of so much: a POST as much as its LIMIT, if there is as much, else all",
            LandSentences::postLets);
        s.says("a CUSTOMS 1 less than a POST does (0 at least)", LandSentences::customsLets);
        s.says("a FREE one twice what a POST does, but no more than there is.", LandSentences::freeLets);
        tellOfCalls(s);
    }

    private static void tellOfCalls(Sentences s) {
        s.of("Promise 1");
        s.says("No LAND (no FIELDS, POSTS, DAYS)", LandSentences::newHasNoLand);
        s.says("SHEETS have nothing.", LandSentences::newHasNoSheets);
        s.of("Promise 2");
        s.says("A LAND by a TEXT of n cells of a SHEET from i on, taken as a row of a LANE: how many POSTS",
            LandSentences::landFromCells);
        s.says("-100 less the FIRST FAULT.", LandSentences::landOfNoText);
        s.says("UNKNOWN", () -> refusedOfFaultsEach("sheet", beyond(0, 3), (x, v) -> x.land(v, SHORTS, 0, 28), UNKNOWN));
        s.says("OUTSIDE: lane", () -> refusedOfFaultsEach("lane", beyond(0, 2), (x, v) -> x.land(0, v, 0, 28), OUTSIDE));
        s.says("FAULTS CAST (nothing is no CAST), NULL", LandSentences::landCastAndNull);
        s.says("SIZE: n is below 0", LandSentences::landSize);
        s.says("INDEX: not all cells are there", LandSentences::landIndex);
        s.says("UNKNOWN; OUTSIDE: lane; FAULTS CAST (nothing is no CAST), NULL, SIZE: n is below 0, INDEX: not all "
            + "cells are there; -100 less it.", LandSentences::landOrder);
        s.of("Promise 3");
        s.says("Of a FIELD: 0 what it NEEDS, 1 what it HOLDS.", LandSentences::needsAndHolds);
        s.says("UNKNOWN", () -> refusedEach("field", beyond(0, 3), (x, f) -> x.ofField(f, 0), UNKNOWN));
        s.says("OUTSIDE", () -> refusedEach("what", beyond(0, 1), (x, what) -> x.ofField(3, what), OUTSIDE));
        s.says("UNKNOWN; OUTSIDE.", () -> refused("both", x -> x.ofField(4, 2), UNKNOWN));
        s.of("Promise 4");
        s.says("Of a POST: 0 kind, 1 LIMIT.", LandSentences::kindAndLimit);
        s.says("UNKNOWN", () -> unknownPosts("ofPost", (x, p) -> x.ofPost(p, 0)));
        s.says("OUTSIDE", () -> refusedEach("what", beyond(0, 1), (x, what) -> x.ofPost(2, what), OUTSIDE));
        s.says("UNKNOWN; OUTSIDE.", () -> refused("both", x -> x.ofPost(3, 2), UNKNOWN));
        s.of("Promise 5");
        s.says("What a POST LETS by of so much (0 .. 99).", LandSentences::letsOfNoneAndMost);
        s.says("UNKNOWN", () -> unknownPosts("lets", (x, p) -> x.lets(p, 1)));
        s.says("OUTSIDE", () -> refusedEach("much", beyond(0, 99), (x, much) -> x.lets(2, much), OUTSIDE));
        s.says("UNKNOWN; OUTSIDE.", () -> refused("both", x -> x.lets(3, 100), UNKNOWN));
        s.of("Promise 6");
        s.says("LIMIT of a POST becomes v (0 .. 9): what it was.", LandSentences::limitBecomes);
        s.says("UNKNOWN", () -> unknownPosts("limit", (x, p) -> x.limit(p, 1)));
        s.says("OUTSIDE", () -> refusedEach("v", beyond(0, 9), (x, v) -> x.limit(2, v), OUTSIDE));
        s.says("UNKNOWN; OUTSIDE.", () -> refused("both", x -> x.limit(3, 10), UNKNOWN));
        s.of("Promise 7");
        s.says("RAIN of a DAY becomes v (0 .. 9): what it was.", LandSentences::rainBecomes);
        s.says("STATE: there is no LAND", () -> stays(Bench::bare, "no land", x -> x.rain(0, 0), STATE, 1));
        s.says("OUTSIDE: day (one that there is)", LandSentences::rainOfDays);
        s.says(", v.", () -> refusedEach("v", beyond(0, 9), (x, v) -> x.rain(3, v), OUTSIDE));
        s.says("STATE: there is no LAND; OUTSIDE: day (one that there is), v.", LandSentences::rainOrder);
    }

    // ---- the text

    /** Of all codes at a place of a text those taken are no fault there, all others are. */
    private static void codesAt(int fields, int place, String taken) {
        WeatherPass x = new WeatherPass();
        write(x, 0, INTS, text(fields, 9));
        for (int code = 0; code < 128 + WILD_CODES.length; code++) {
            codeAt(x, fields, place, code < 128 ? code : WILD_CODES[code - 128], taken);
        }
    }

    private static void codeAt(WeatherPass x, int fields, int place, int code, String taken) {
        String what = "land with code " + code + " at " + place;
        due("put", x.put(0, place, code), 1);
        int told = x.land(0, INTS, 0, place + 1);
        if (taken.indexOf(code) < 0) {
            due(what, told, -100 - place);
            due(what + ", and more behind it", x.land(0, INTS, 0, Math.min(place + 2, 6 * fields + 9)), -100 - place);
        } else {
            // A text that ends ahead of its first day ends too soon.
            due(what, told, place < 6 * fields ? -100 - place - 1 : fields - 1);
        }
    }

    private static void twoToSixFields() {
        codesAt(2, 0, "v");
        codesAt(2, 1, "23456");
        for (int fields = 2; fields <= 6; fields++) {
            WeatherPass x = withLand(text(fields, 1));
            due("fields", x.many(1), fields);
            for (int f = 0; f < fields; f++) {
                due("field " + f + " from the west needs", x.ofField(f, 0), f + 1);
            }
            due("no further field", x.ofField(fields, 0), UNKNOWN);
        }
        due("one field", landOf(new WeatherPass(), "v1,12;5"), -101);
        due("seven fields", landOf(new WeatherPass(), "v7,12,12,12,12,12,12,12-p1-p1-p1-p1-p1-p1;5"), -101);
        due("ten fields", landOf(new WeatherPass(), "v10,12"), -101);
    }

    private static void partsOfFields() {
        for (int fields = 2; fields <= 6; fields++) {
            for (int f = 0; f < fields; f++) {
                codesAt(fields, 2 + 3 * f, ",");
                codesAt(fields, 3 + 3 * f, DIGITS);
                codesAt(fields, 4 + 3 * f, DIGITS);
            }
        }
        WeatherPass x = withLand("v2,09,90-p0;0");
        due("needs 0", x.ofField(0, 0), 0);
        due("holds 9", x.ofField(0, 1), 9);
        due("needs 9", x.ofField(1, 0), 9);
        due("holds 0", x.ofField(1, 1), 0);
        due("a field too few", landOf(new WeatherPass(), "v3,12,34-p1-p1;5"), -108);
        due("a field too many", landOf(new WeatherPass(), "v2,12,34,56-p1;5"), -108);
    }

    private static void partsOfBorders() {
        for (int fields = 2; fields <= 6; fields++) {
            int borders = 2 + 3 * fields;
            for (int p = 0; p < fields - 1; p++) {
                codesAt(fields, borders + 3 * p, "-");
                codesAt(fields, borders + 3 * p + 1, KINDS);
                codesAt(fields, borders + 3 * p + 2, DIGITS);
            }
        }
        WeatherPass x = withLand("v4,09,09,09,09-p0-c9-f5;9");
        int[] limits = {0, 9, 5};
        for (int p = 0; p < 3; p++) {
            due("kind of post " + p, x.ofPost(p, 0), p);
            due("limit of post " + p, x.ofPost(p, 1), limits[p]);
        }
        due("no further post", x.ofPost(3, 0), UNKNOWN);
        x = withLand("v3,09,09,09-p9-p0;9");
        due("post 0 lets by from field 0", x.fell(0, 1), 0);
        due("post 1 lets none by from field 1", x.fell(1, 1), 9);
        due("a post too few", landOf(new WeatherPass(), "v3,12,34,56-p1;5"), -114);
        due("a post too many", landOf(new WeatherPass(), "v2,12,34-p1-p1;5"), -111);
    }

    private static void oneToEightDays() {
        for (int fields = 2; fields <= 6; fields++) {
            int rains = 6 * fields;
            codesAt(fields, rains - 1, ";");
            for (int day = 0; day < 8; day++) {
                codesAt(fields, rains + day, DIGITS);
            }
            codesAt(fields, rains + 8, "");
            due("no day", landOf(new WeatherPass(), text(fields, 0)), -100 - rains);
            due("nine days", landOf(new WeatherPass(), text(fields, 9)), -100 - rains - 8);
            for (int days = 1; days <= 8; days++) {
                due("days", withLand(text(fields, days)).many(2), days);
            }
        }
        WeatherPass x = withLand("v2,09,09-p0;01234569");
        for (int day = 0; day < 8; day++) {
            due("rain of day " + day, x.rain(day, 0), day == 7 ? 9 : day);
        }
    }

    private static void firstOfFaults() {
        String good = text(3, 8);
        for (int first = 0; first < good.length(); first++) {
            for (int later = first + 1; later < good.length(); later++) {
                StringBuilder text = new StringBuilder(good);
                text.setCharAt(first, 'x');
                text.setCharAt(later, '?');
                due("faults at " + first + " and " + later, landOf(new WeatherPass(), text.toString()), -100 - first);
            }
            due("a fault and its end", landOf(new WeatherPass(), good.substring(0, first) + "x"), -100 - first);
        }
        due("a fault and a ninth day", landOf(new WeatherPass(), "v2,12,34-q1;123456789"), -109);
        due("behind so few fields as it tells", landOf(new WeatherPass(), "v2,12,34,"), -108);
        due("the place is from 0 on, wherever the text is", landBehind(7, "v2,12?"), -105);
    }

    private static int landBehind(int codes, String text) {
        WeatherPass x = new WeatherPass();
        write(x, 0, INTS, "v".repeat(codes) + text);
        return x.land(0, INTS, codes, text.length());
    }

    private static void ninthDay() {
        for (int fields = 2; fields <= 6; fields++) {
            int ninth = 6 * fields + 8;
            due("eight", landOf(new WeatherPass(), text(fields, 8)), fields - 1);
            due("nine", landOf(new WeatherPass(), text(fields, 9)), -100 - ninth);
            due("ten", landOf(new WeatherPass(), text(fields, 10)), -100 - ninth);
            due("a ninth and no digit", landOf(new WeatherPass(), text(fields, 9) + "x"), -100 - ninth);
            due("no digit behind the eighth", landOf(new WeatherPass(), text(fields, 8) + "x"), -100 - ninth);
            due("no digit behind the seventh", landOf(new WeatherPass(), text(fields, 7) + "x"), -100 - ninth + 1);
        }
    }

    private static void endsTooSoon() {
        for (int fields = 2; fields <= 6; fields++) {
            String text = text(fields, 8);
            WeatherPass x = new WeatherPass();
            write(x, 0, BYTES, text);
            for (int n = 0; n <= 6 * fields; n++) {
                due("of " + n + " cells of a longer row", x.land(0, BYTES, 0, n), -100 - n);
                due("of a row of " + n, landOf(new WeatherPass(), text.substring(0, n)), -100 - n);
            }
            due("no land by any of them", x.many(1), 0);
            for (int n = 6 * fields + 1; n <= 6 * fields + 8; n++) {
                due("long enough with " + n, x.land(0, BYTES, 0, n), fields - 1);
                due("days", x.many(2), n - 6 * fields);
            }
        }
    }

    private static void codes() {
        int[] codes = {118, 52, 44, 48, 57, 44, 49, 56, 44, 50, 55, 44, 51, 54, 45, 112, 52, 45, 99, 53, 45, 102, 54,
            59, 57, 56, 48};
        WeatherPass x = new WeatherPass();
        writeRow(x, 0, INTS, codes);
        due("land", x.land(0, INTS, 0, codes.length), 3);
        for (int f = 0; f < 4; f++) {
            due("needs", x.ofField(f, 0), f);
            due("holds", x.ofField(f, 1), 9 - f);
        }
        for (int p = 0; p < 3; p++) {
            due("kind", x.ofPost(p, 0), p);
            due("limit", x.ofPost(p, 1), 4 + p);
        }
        int[] rains = {9, 8, 0};
        for (int day = 0; day < 3; day++) {
            due("rain", x.rain(day, 1), rains[day]);
        }
    }

    private static void kinds() {
        WeatherPass x = withLand("v6,00,00,00,00,00,00-f1-c1-p1-c1-f1;1");
        int[] kinds = {2, 1, 0, 1, 2};
        for (int p = 0; p < 5; p++) {
            due("kind", x.ofPost(p, 0), kinds[p]);
            due("each is a post", x.as(p, 0), 1);
            due("a customs", x.as(p, 1), kinds[p] >= 1 ? 1 : CAST);
            due("a free one", x.as(p, 2), kinds[p] == 2 ? 1 : CAST);
        }
    }

    private static void allAnew() {
        WeatherPass x = furnished();
        due("the same text", x.land(0, SHORTS, 0, 28), 3);
        due("no readings", x.many(3), 0);
        due("limit", x.ofPost(0, 1), 3);
        due("rain", x.rain(2, 1), 0);
        due("by no readings", x.limits(0), 1023);
        due("numbered from 0 on again", x.reading(0, 0, 0), 0);
        x = full();
        due("full", x.reading(0, 0, 0), FULL);
        due("the same text", x.land(0, SHORTS, 0, 28), 3);
        for (int k = 0; k < 8; k++) {
            due("eight again", x.reading(0, 0, 0), k);
        }
        landsOfOtherSizes();
        stays(Bench::furnished, "a text that is not taken", y -> y.land(0, SHORTS, 0, 24), -124, 0);
        stays(Bench::furnished, "nor one of no cells", y -> y.land(0, SHORTS, 28, 0), -100, 0);
    }

    /** Behind each other each land is as if it were the first. */
    private static void landsOfOtherSizes() {
        int[] fields = {6, 2, 4, 6, 3, 5, 2};
        int[] days = {8, 1, 3, 2, 8, 7, 8};
        WeatherPass x = new WeatherPass();
        for (int k = 0; k < fields.length; k++) {
            String text = text(fields[k], days[k]);
            due("land", landOf(x, text), fields[k] - 1);
            for (int f = 0; f < 6; f++) {
                WeatherPass alone = withLand(text);
                due("wet", x.wet(f, days[k]), alone.wet(f, days[k]));
                due("fell", x.fell(f, days[k]), alone.fell(f, days[k]));
                due("needs", x.ofField(f, 0), alone.ofField(f, 0));
                due("limit", x.ofPost(f, 1), alone.ofPost(f, 1));
            }
            due("no further day", x.rain(days[k], 0), OUTSIDE);
        }
    }

    // ---- what posts let by

    private interface LetBy {
        int of(int limit, int much);
    }

    private static void lets(char kind, LetBy wanted) {
        for (int limit = 0; limit <= 9; limit++) {
            WeatherPass x = withLand("v2,00,00-" + kind + limit + ";1");
            for (int much = 0; much <= 99; much++) {
                due(kind + "" + limit + " of " + much, x.lets(0, much), wanted.of(limit, much));
            }
        }
    }

    private static void postLets() {
        WeatherPass x = withLand("v2,00,00-p5;1");
        due("one too little", x.lets(0, 4), 4);
        due("just as much", x.lets(0, 5), 5);
        due("one too much", x.lets(0, 6), 5);
        lets('p', (limit, much) -> much < limit ? much : limit);
    }

    private static void customsLets() {
        WeatherPass x = withLand("v3,00,00,00-c5-c0;1");
        int[] by = {0, 0, 1, 2, 3, 4, 4, 4};
        for (int much = 0; much < by.length; much++) {
            due("of " + much, x.lets(0, much), by[much]);
            due("none by a limit of 0", x.lets(1, much), 0);
        }
        lets('c', (limit, much) -> limit == 0 || much == 0 ? 0 : (much < limit ? much : limit) - 1);
    }

    private static void freeLets() {
        WeatherPass x = withLand("v3,00,00,00-f3-f0;1");
        int[] by = {0, 1, 2, 3, 4, 5, 6, 6, 6};
        for (int much = 0; much < by.length; much++) {
            due("of " + much, x.lets(0, much), by[much]);
            due("none by a limit of 0", x.lets(1, much), 0);
        }
        lets('f', (limit, much) -> much < 2 * limit ? much : 2 * limit);
    }

    // ---- promise 1

    private static void newHasNoLand() {
        WeatherPass x = new WeatherPass();
        int[] none = {x.many(0), x.many(1), x.many(2), x.many(3), x.back(0), x.trace(), x.fault()};
        due("how many of each", Arrays.stream(none).map(Math::abs).sum(), 0);
        int[] unknown = {x.ofField(0, 0), x.ofPost(0, 0), x.lets(0, 0), x.limit(0, 0), x.wet(0, 0), x.fell(0, 0),
            x.shut(0), x.reading(0, 0, 0), x.limits(0), x.kinds(0), x.tell(0), x.stamp(0), x.as(0, 0)};
        for (int k = 0; k < unknown.length; k++) {
            due("call " + k + " of a field or a post", unknown[k], UNKNOWN);
        }
        int[] state = {x.rain(0, 0), x.flood(0), x.flood(1), x.enough(), x.papers(), x.most(), x.rains(0)};
        for (int k = 0; k < state.length; k++) {
            due("call " + k + " of a land", state[k], STATE);
        }
        due("odds", x.odds(0, 0), LOST);
        due("none to take back", x.back(1), OUTSIDE);
        WeatherPass other = withLand();
        due("another has one", other.many(1), 4);
        due("this has none", x.many(1), 0);
    }

    private static void newHasNoSheets() {
        WeatherPass x = new WeatherPass();
        for (int k = 0; k < 4; k++) {
            due("put", x.put(k, 0, 0), NULL);
            due("copy from it", x.copy(k, 0, k, 0, 0), NULL);
            due("lose", x.lose(k), 0);
            for (int lane = 0; lane < 3; lane++) {
                due("land", x.land(k, lane, 0, 0), NULL);
                due("plan", x.plan(k, lane, 0, 0, 0), NULL);
                due("cell", x.cell(k, 0, lane), LOST);
                due("fault", x.fault(), 1);
            }
        }
    }

    // ---- promise 2

    private static void landFromCells() {
        for (int k = 0; k < 4; k++) {
            for (int lane = 0; lane < 3; lane++) {
                String text = text(6, 8);
                WeatherPass x = new WeatherPass();
                write(x, k, lane, "v2,12,34-p1;1vv-" + text);
                due("at the end of the longest row", x.land(k, lane, 16, 44), 5);
                due("fewer days", x.land(k, lane, 16, 37), 5);
                due("days", x.many(2), 1);
                due("at its begin", x.land(k, lane, 0, 13), 1);
                due("not what is behind", x.many(2), 1);
                due("cells of no text", x.land(k, lane, 14, 46), -101);
            }
        }
        for (int fields = 2; fields <= 6; fields++) {
            due("posts", landOf(new WeatherPass(), text(fields, 3)), fields - 1);
        }
        WeatherPass x = new WeatherPass();
        writeRow(x, 1, BYTES, 118 + 256, 50 - 256, 44 + 512);
        due("codes are as they were cut", x.land(1, BYTES, 0, 3), -103);
        writeRow(x, 1, SHORTS, 118 + 65536, 50 + 256);
        due("and not cut further", x.land(1, SHORTS, 0, 2), -101);
    }

    private static void landOfNoText() {
        stays(Bench::furnished, "no cells", x -> x.land(0, SHORTS, 0, 0), -100, 0);
        stays(Bench::furnished, "at the first", x -> x.land(1, INTS, 0, 6), -100, 0);
        stays(Bench::furnished, "at the last", x -> x.land(0, SHORTS, 0, 24), -124, 0);
        stays(Bench::furnished, "below 0", x -> x.land(2, BYTES, 0, 3), -100, 0);
        stays(Bench::bare, "without a land", x -> x.land(0, SHORTS, 0, 1), -101, 0);
        due("the farthest", landOf(new WeatherPass(), text(6, 9)), -144);
    }

    private static void landCastAndNull() {
        faulted("bytes, not shorts", x -> x.land(0, BYTES, 0, 28), CAST);
        faulted("ints, not shorts", x -> x.land(0, INTS, 0, 28), CAST);
        faulted("shorts, not ints", x -> x.land(1, SHORTS, 0, 0), CAST);
        faulted("shorts, not bytes", x -> x.land(2, SHORTS, 0, 0), CAST);
        for (int lane = 0; lane < 3; lane++) {
            int asLane = lane;
            faulted("nothing, of any lane", x -> x.land(3, asLane, 0, 0), NULL);
        }
        WeatherPass x = furnished();
        due("lose", x.lose(0), 1);
        due("nothing any more", x.land(0, SHORTS, 0, 28), NULL);
    }

    private static void landSize() {
        for (int n : new int[] {-1, -2, -28, Integer.MIN_VALUE, Integer.MIN_VALUE + 28}) {
            faulted("n " + n, x -> x.land(0, SHORTS, 0, n), SIZE);
        }
        due("0 is none", furnished().land(0, SHORTS, 0, 0), -100);
    }

    private static void landIndex() {
        int[][] beyond = {{0, 29}, {1, 28}, {27, 2}, {28, 1}, {29, 0}, {-1, 0}, {-1, 1}, {-1, 29}, {29, 1},
            {0, Integer.MAX_VALUE}, {1, Integer.MAX_VALUE}, {28, Integer.MAX_VALUE}, {Integer.MAX_VALUE, 0},
            {Integer.MAX_VALUE, 1}, {Integer.MAX_VALUE, Integer.MAX_VALUE}, {Integer.MIN_VALUE, 0},
            {Integer.MIN_VALUE, Integer.MAX_VALUE}, {-28, 28}};
        for (int[] c : beyond) {
            faulted(c[1] + " cells from " + c[0] + " on", x -> x.land(0, SHORTS, c[0], c[1]), INDEX);
        }
        due("all", furnished().land(0, SHORTS, 0, 28), 3);
        due("the last one", furnished().land(0, SHORTS, 27, 1), -100);
        due("none at the end", furnished().land(0, SHORTS, 28, 0), -100);
        WeatherPass x = new WeatherPass();
        due("a row of no cells", x.sheet(0, BYTES, 0), 1);
        due("none of none", x.land(0, BYTES, 0, 0), -100);
        due("one of none", x.land(0, BYTES, 0, 1), INDEX);
        due("none from 1 on", x.land(0, BYTES, 1, 0), INDEX);
    }

    private static void landOrder() {
        refusedOfFaults("UNKNOWN ahead of all", x -> x.land(4, 3, -1, -1), UNKNOWN);
        refusedOfFaults("OUTSIDE ahead of NULL", x -> x.land(3, 3, 0, 0), OUTSIDE);
        refusedOfFaults("OUTSIDE ahead of SIZE", x -> x.land(0, 3, 0, -1), OUTSIDE);
        refusedOfFaults("OUTSIDE ahead of INDEX", x -> x.land(0, -1, 29, 0), OUTSIDE);
        faulted("NULL ahead of SIZE", x -> x.land(3, SHORTS, 0, -1), NULL);
        faulted("NULL ahead of INDEX", x -> x.land(3, SHORTS, -1, 0), NULL);
        faulted("CAST ahead of SIZE", x -> x.land(0, INTS, 0, -1), CAST);
        faulted("CAST ahead of INDEX", x -> x.land(0, INTS, 29, 0), CAST);
        faulted("CAST ahead of the FIRST FAULT", x -> x.land(1, SHORTS, 0, 6), CAST);
        faulted("SIZE ahead of INDEX", x -> x.land(0, SHORTS, -1, -1), SIZE);
        faulted("SIZE ahead of INDEX", x -> x.land(0, SHORTS, 29, -1), SIZE);
        faulted("INDEX ahead of the FIRST FAULT", x -> x.land(1, INTS, 0, 7), INDEX);
    }

    // ---- promises 3 to 7

    private static void needsAndHolds() {
        WeatherPass x = withLand("v6,09,18,27,36,45,90-p0-p0-p0-p0-p0;0");
        int[] needs = {0, 1, 2, 3, 4, 9};
        int[] holds = {9, 8, 7, 6, 5, 0};
        for (int f = 0; f < 6; f++) {
            due("needs", x.ofField(f, 0), needs[f]);
            due("holds", x.ofField(f, 1), holds[f]);
        }
        due("no seventh", x.ofField(6, 0), UNKNOWN);
        stays(Bench::bare, "without a land", y -> y.ofField(0, 0), UNKNOWN, 1);
    }

    private static void kindAndLimit() {
        WeatherPass x = withLand("v6,00,00,00,00,00,00-p0-c9-f1-p8-f9;0");
        int[] kinds = {0, 1, 2, 0, 2};
        int[] limits = {0, 9, 1, 8, 9};
        for (int p = 0; p < 5; p++) {
            due("kind", x.ofPost(p, 0), kinds[p]);
            due("limit", x.ofPost(p, 1), limits[p]);
        }
        due("no sixth", x.ofPost(5, 0), UNKNOWN);
        stays(Bench::bare, "without a land", y -> y.ofPost(0, 0), UNKNOWN, 1);
    }

    private static void letsOfNoneAndMost() {
        WeatherPass x = withLand("v4,00,00,00,00-p9-c9-f9;0");
        int[] most = {9, 8, 18};
        for (int p = 0; p < 3; p++) {
            due("of 0", x.lets(p, 0), 0);
            due("of 99", x.lets(p, 99), most[p]);
        }
        due("no fourth", x.lets(3, 0), UNKNOWN);
        stays(Bench::bare, "without a land", y -> y.lets(0, 0), UNKNOWN, 1);
    }

    private static void limitBecomes() {
        for (int p = 0; p < 3; p++) {
            WeatherPass x = withLand("v4,00,00,00,00-p7-p7-p7;9");
            due("it was", x.limit(p, 0), 7);
            due("0", x.ofPost(p, 1), 0);
            due("lets by", x.lets(p, 9), 0);
            due("it was 0", x.limit(p, 9), 0);
            due("9", x.ofPost(p, 1), 9);
            due("lets by", x.lets(p, 99), 9);
            due("it was 9", x.limit(p, 9), 9);
            due("the others stay", x.ofPost((p + 1) % 3, 1) + x.ofPost((p + 2) % 3, 1), 14);
        }
        WeatherPass x = withLand("v2,00,00-p0;9");
        due("what is asked later is by the new one", x.limit(0, 4) + x.fell(1, 1), 4);
        stays(Bench::bare, "without a land", y -> y.limit(0, 0), UNKNOWN, 1);
    }

    private static void rainBecomes() {
        WeatherPass x = withLand("v2,00,00-p0;44444444");
        for (int day = 0; day < 8; day++) {
            due("it was", x.rain(day, 0), 4);
            due("it was 0", x.rain(day, 9), 0);
            due("fell", x.fell(0, 8), 32 + 5 * (day + 1));
            due("it was 9", x.rain(day, 9), 9);
        }
        due("no ninth day", x.rain(8, 0), OUTSIDE);
    }

    private static void rainOfDays() {
        refusedEach("day", beyond(0, 3), (x, day) -> x.rain(day, 1), OUTSIDE);
        for (int days = 1; days <= 8; days++) {
            WeatherPass x = withLand(text(2, days));
            due("the last day", x.rain(days - 1, 5), (days + 2) % 10);
            due("one more", x.rain(days, 5), OUTSIDE);
        }
    }

    private static void rainOrder() {
        stays(Bench::bare, "no land and no such day", x -> x.rain(-1, 0), STATE, 1);
        stays(Bench::bare, "no land and no such v", x -> x.rain(0, 10), STATE, 1);
        refused("day and v", x -> x.rain(4, 10), OUTSIDE);
    }
}
