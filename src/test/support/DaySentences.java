/** Days: what comes, falls, wets and floods, promises 8 to 12. */
final class DaySentences extends Bench {
    /** Needs 4, 1, 3; each holds 4; posts let 2 and 1 by; rain 5, 3. */
    private static final String PLANNED = "v3,44,14,34-p2-p1;53";
    private static final int[] WHATS = {0, 1, 2, 3, 10, 11, 12, 13, 14, 15, 20, 21, 22, 23, 24, 25};
    private static final int[] NO_WHATS = {-1, 4, 5, 9, 16, 17, 19, 26, 30, -10, 10 + 256, 25 + 256, 20 - 256,
        Integer.MIN_VALUE, Integer.MIN_VALUE + 10, Integer.MAX_VALUE};

    private DaySentences() {
    }

    static void tell(Sentences s) {
        s.of("Terms");
        s.says("A DAY, from the west on: the RAIN comes to FIELD 0", DaySentences::rainComes);
        s.says("of what comes to a FIELD its POST to the east LETS so much by to the next one", DaySentences::letsBy);
        s.says("(all, if it has PAPERS on that DAY", DaySentences::papersOnADay);
        s.says("the last FIELD has none to the east)", DaySentences::lastField);
        s.says("the rest FALLS there.", DaySentences::restFalls);
        s.says("WET of a FIELD: on each DAY 1 less first (0 at least), then more by what FALLS",
            DaySentences::wetDayByDay);
        s.says("0 at first.", DaySentences::dryAtFirst);
        s.says("It FLOODS on a DAY, if it is then WET by more than it HOLDS.", DaySentences::floods);
        s.says("FLOOD: the first DAY on which a FIELD FLOODS, the least FIELD that does.", DaySentences::firstFlood);
        s.says("ENOUGH: FIELDS on which as much as they NEED FELL on all DAYS together.", DaySentences::asMuchAsNeeded);
        s.says("A PLAN told: DAY by DAY a set of POSTS that have PAPERS.", DaySentences::planDayByDay);
        tellOfCalls(s);
        tellOfPlan(s);
    }

    private static void tellOfCalls(Sentences s) {
        s.of("Promise 8");
        s.says("How WET a FIELD is behind t DAYS (0 .. as many as there are).", DaySentences::wetBehindDays);
        s.says("UNKNOWN", () -> unknownFields("wet", WeatherPass::wet));
        s.says("OUTSIDE", () -> daysOutside("wet", WeatherPass::wet));
        s.says("UNKNOWN; OUTSIDE.", () -> refused("both", x -> x.wet(4, 5), UNKNOWN));
        s.of("Promise 9");
        s.says("What FELL on a FIELD on t DAYS (0 .. as many as there are) together.", DaySentences::fellOnDays);
        s.says("UNKNOWN", () -> unknownFields("fell", WeatherPass::fell));
        s.says("OUTSIDE", () -> daysOutside("fell", WeatherPass::fell));
        s.says("UNKNOWN; OUTSIDE.", () -> refused("both", x -> x.fell(4, 5), UNKNOWN));
        s.of("Promise 10");
        s.says("FLOOD: the DAY (what 0), the FIELD (1)", DaySentences::dayAndFieldOfFlood);
        s.says("NONE", DaySentences::noFlood);
        s.says("OUTSIDE", () -> refusedEach("what", beyond(0, 1), (x, what) -> x.flood(what), OUTSIDE));
        s.says("STATE: there is no LAND", () -> {
            stays(Bench::bare, "flood(0)", x -> x.flood(0), STATE, 1);
            stays(Bench::bare, "flood(1)", x -> x.flood(1), STATE, 1);
        });
        s.says("OUTSIDE; STATE: there is no LAND.", () -> {
            stays(Bench::bare, "flood(2)", x -> x.flood(2), OUTSIDE, 1);
            stays(Bench::bare, "flood(-1)", x -> x.flood(-1), OUTSIDE, 1);
        });
        s.of("Promise 11");
        s.says("ENOUGH, as a set.", DaySentences::enoughAsASet);
        s.says("STATE: there is no LAND.", () -> stays(Bench::bare, "enough", x -> x.enough(), STATE, 1));
    }

    private static void tellOfPlan(Sentences s) {
        s.of("Promise 12");
        s.says("A PLAN of n such cells", DaySentences::planOfCells);
        s.says("how often FIELDS FLOOD (each on each DAY; what 0)", DaySentences::planFloods);
        s.says("the DAY of the FLOOD (1; NONE), its FIELD (2; NONE)", DaySentences::planFirstFlood);
        s.says("ENOUGH (3)", DaySentences::planEnough);
        s.says("how WET FIELD f is at its end (10 and f; NONE: there is no such FIELD)",
            () -> planOfFields(10, new int[][] {{3, 1, 1}, {1, 1, 5}, {2, 0, 3}, {1, 4, 1}, {3, 0, 3}}));
        s.says("what FELL on it (20 and f; NONE: there is no such FIELD).",
            () -> planOfFields(20, new int[][] {{4, 2, 2}, {1, 1, 6}, {3, 1, 4}, {1, 5, 2}, {4, 0, 4}}));
        s.says("UNKNOWN: SHEET", () -> refusedOfFaultsEach("sheet", beyond(0, 3), (x, v) -> x.plan(v, INTS, 0, 4, 0),
            UNKNOWN));
        s.says("OUTSIDE: lane", () -> refusedOfFaultsEach("lane", beyond(0, 2), (x, v) -> x.plan(1, v, 0, 4, 0),
            OUTSIDE));
        s.says("what (0 .. 3, 10 .. 15, 20 .. 25)", DaySentences::planWhats);
        s.says("FAULTS CAST, NULL", DaySentences::planCastAndNull);
        s.says("SIZE", () -> {
            for (int n : new int[] {-1, -4, Integer.MIN_VALUE, Integer.MIN_VALUE + 4}) {
                faulted("n " + n, x -> x.plan(1, INTS, 0, n, 0), SIZE);
            }
        });
        s.says("INDEX", DaySentences::planIndex);
        s.says("STATE: there is no LAND", DaySentences::planWithoutLand);
        s.says("OUTSIDE: n is not how many DAYS there are", DaySentences::planOfOtherDays);
        s.says("a cell is no set of POSTS that there are.", DaySentences::planOfOtherPosts);
        s.says("UNKNOWN: SHEET; OUTSIDE: lane, what (0 .. 3, 10 .. 15, 20 .. 25); FAULTS CAST, NULL, SIZE, INDEX; "
            + "STATE: there is no LAND; OUTSIDE: n is not how many DAYS there are; a cell is no set of POSTS",
            DaySentences::planOrder);
    }

    private static void days(WeatherPass x, int f, int[] wets, int[] falls) {
        for (int t = 0; t < wets.length; t++) {
            due("wet(" + f + ", " + t + ")", x.wet(f, t), wets[t]);
            due("fell(" + f + ", " + t + ")", x.fell(f, t), falls[t]);
        }
    }

    // ---- a day

    private static void rainComes() {
        for (int rain = 0; rain <= 9; rain++) {
            WeatherPass x = withLand("v3,09,09,09-p0-p9;" + rain);
            due("on field 0", x.fell(0, 1), rain);
            due("on no other", x.fell(1, 1) + x.fell(2, 1), 0);
        }
        WeatherPass x = withLand("v6,09,09,09,09,09,09-p9-p9-p9-p9-p9;9");
        due("it gets to the last field on its day", x.fell(5, 1), 9);
        due("nothing is left behind", x.fell(0, 1), 0);
    }

    private static void letsBy() {
        WeatherPass x = withLand("v4,09,09,09,09-p5-c4-f1;97");
        days(x, 0, new int[] {0, 4, 5}, new int[] {0, 4, 6});
        days(x, 1, new int[] {0, 2, 3}, new int[] {0, 2, 4});
        days(x, 2, new int[] {0, 1, 1}, new int[] {0, 1, 2});
        days(x, 3, new int[] {0, 2, 3}, new int[] {0, 2, 4});
    }

    private static void papersOnADay() {
        for (char kind : new char[] {'p', 'c', 'f'}) {
            WeatherPass x = withLand("v2,09,09-" + kind + "0;95");
            int[][] plans = {{0, 0}, {1, 0}, {0, 1}, {1, 1}};
            int[] falls = {0, 9, 5, 14};
            for (int k = 0; k < plans.length; k++) {
                writeRow(x, 1, BYTES, plans[k]);
                due("what fell behind plan " + k, x.plan(1, BYTES, 0, 2, 21), falls[k]);
                due("and ahead", x.plan(1, BYTES, 0, 2, 20), 14 - falls[k]);
            }
        }
        WeatherPass x = withLand("v3,09,09,09-p0-p0;9");
        writeRow(x, 1, BYTES, 2);
        due("papers where nothing comes", x.plan(1, BYTES, 0, 1, 20), 9);
        writeRow(x, 1, BYTES, 3);
        due("all by both", x.plan(1, BYTES, 0, 1, 22), 9);
    }

    private static void lastField() {
        for (int fields = 2; fields <= 6; fields++) {
            WeatherPass x = withLand("v" + fields + ",09".repeat(fields) + "-p9".repeat(fields - 1) + ";98");
            due("all falls on the last one", x.fell(fields - 1, 2), 17);
            int all = (1 << fields - 1) - 1;
            writeRow(x, 1, BYTES, all, all);
            due("with papers, too", x.plan(1, BYTES, 0, 2, 20 + fields - 1), 17);
            due("it is wet", x.plan(1, BYTES, 0, 2, 10 + fields - 1), 16);
        }
    }

    private static void restFalls() {
        for (int fields = 2; fields <= 6; fields++) {
            String text = text(fields, 8);
            WeatherPass x = withLand(text);
            int rain = 0;
            for (int t = 0; t <= 8; t++) {
                int all = 0;
                for (int f = 0; f < fields; f++) {
                    all += x.fell(f, t);
                }
                due("what fell on all fields on " + t + " days", all, rain);
                rain += t < 8 ? text.charAt(6 * fields + t) - '0' : 0;
            }
        }
        WeatherPass x = withLand("v2,09,09-p4;45");
        due("no rest", x.fell(0, 1), 0);
        due("a rest of 1", x.fell(0, 2), 1);
    }

    private static void wetDayByDay() {
        WeatherPass x = withLand("v2,09,09-p0;30000102");
        days(x, 0, new int[] {0, 3, 2, 1, 0, 0, 1, 0, 2}, new int[] {0, 3, 3, 3, 3, 3, 4, 4, 6});
        days(x, 1, new int[9], new int[9]);
        x = withLand("v2,09,09-p9;11111111");
        days(x, 1, new int[] {0, 1, 1, 1, 1, 1, 1, 1, 1}, new int[] {0, 1, 2, 3, 4, 5, 6, 7, 8});
        x = withLand("v2,09,09-p0;99999999");
        due("the wettest", x.wet(0, 8), 65);
        due("the most that falls", x.fell(0, 8), 72);
    }

    private static void dryAtFirst() {
        for (int fields = 2; fields <= 6; fields++) {
            WeatherPass x = withLand(text(fields, 8));
            for (int f = 0; f < fields; f++) {
                due("wet(" + f + ", 0)", x.wet(f, 0), 0);
                due("fell(" + f + ", 0)", x.fell(f, 0), 0);
            }
            due("asked again behind days", x.wet(0, 8) >= 0 ? x.wet(0, 0) : -1, 0);
        }
    }

    private static void floods() {
        for (int holds = 0; holds < 9; holds++) {
            due("as much as it holds", withLand("v2,0" + holds + ",09-p0;" + holds).flood(0), NONE);
            due("one more", withLand("v2,0" + holds + ",09-p0;" + (holds + 1)).flood(0), 0);
            due("as the last field", withLand("v2,00,0" + holds + "-p9;" + holds).flood(1), NONE);
            due("one more", withLand("v2,00,0" + holds + "-p9;" + (holds + 1)).flood(1), 1);
        }
        due("9, as much as it holds", withLand("v2,09,09-p0;91").flood(0), NONE);
        due("10", withLand("v2,09,09-p0;92").flood(0), 1);
        due("by what is left of the day before", withLand("v2,04,09-p0;42").flood(0), 1);
        due("as it is less wet first", withLand("v2,04,09-p0;41").flood(0), NONE);
        due("nothing, where nothing is held", withLand("v2,00,00-p0;00000000").flood(0), NONE);
    }

    private static void firstFlood() {
        WeatherPass x = withLand("v3,01,01,01-p2-p1;35");
        due("on day 0: no field is wet by more than 1", x.flood(0), 1);
        due("field 0 gets 3", x.flood(1), 0);
        x = withLand("v3,09,03,03-p9-p4;8000");
        due("two on one day: the day", x.flood(0), 0);
        due("the least of them", x.flood(1), 1);
        x = withLand("v3,03,09,01-p2-p2;26");
        due("the first day, though of a greater field", x.flood(0), 0);
        due("the field of the first day", x.flood(1), 2);
        x = withLand("v2,09,09-p0;00000009");
        x.rain(6, 9);
        due("on the last day only", x.flood(0), 7);
    }

    private static void asMuchAsNeeded() {
        for (int needs = 0; needs <= 9; needs++) {
            due("just as much", withLand("v2," + needs + "9,99-p0;" + needs).enough(), 1);
            if (needs > 0) {
                due("one less", withLand("v2," + needs + "9,99-p0;" + (needs - 1)).enough(), 0);
            }
        }
        due("on eight days together", withLand("v2,89,99-p0;11111111").enough(), 1);
        due("though it was never so wet", withLand("v2,99,89-p9;20202020").enough(), 2);
        due("on the last day", withLand("v2,99,99-p0;00000009").enough(), 1);
        due("one less together", withLand("v2,99,99-p9;10101014").enough(), 0);
    }

    private static void planDayByDay() {
        WeatherPass x = withLand("v3,09,09,09-p0-p0;12345678");
        int[] plan = {0, 1, 2, 3, 3, 2, 1, 0};
        writeRow(x, 1, SHORTS, plan);
        due("on field 0", x.plan(1, SHORTS, 0, 8, 20), 1 + 3 + 6 + 8);
        due("on field 1", x.plan(1, SHORTS, 0, 8, 21), 2 + 7);
        due("on field 2", x.plan(1, SHORTS, 0, 8, 22), 4 + 5);
    }

    // ---- promises 8 to 11

    private interface ByFieldAndDays {
        int of(WeatherPass x, int f, int t);
    }

    private static void unknownFields(String name, ByFieldAndDays call) {
        refusedEach(name + " of field", beyond(0, 3), (x, f) -> call.of(x, f, 0), UNKNOWN);
        stays(Bench::bare, name + " without a land", x -> call.of(x, 0, 0), UNKNOWN, 1);
        for (int fields = 2; fields <= 6; fields++) {
            WeatherPass x = withLand(text(fields, 1));
            due(name + " of the last field", call.of(x, fields - 1, 0), 0);
            due(name + " of one more", call.of(x, fields, 0), UNKNOWN);
        }
    }

    private static void daysOutside(String name, ByFieldAndDays call) {
        refusedEach(name + " behind", beyond(0, 4), (x, t) -> call.of(x, 0, t), OUTSIDE);
        for (int days = 1; days <= 8; days++) {
            WeatherPass x = withLand("v2,09,09-p0;" + "1".repeat(days));
            due(name + " behind all", call.of(x, 1, days), 0);
            due(name + " behind one more", call.of(x, 1, days + 1), OUTSIDE);
            due(name + " behind -1", call.of(x, 1, -1), OUTSIDE);
        }
    }

    private static void wetBehindDays() {
        WeatherPass x = withLand("v2,09,09-p3;75");
        int[][] wets = {{0, 4, 5}, {0, 3, 5}};
        for (int f = 0; f < 2; f++) {
            for (int t = 0; t <= 2; t++) {
                due("wet(" + f + ", " + t + ")", x.wet(f, t), wets[f][t]);
            }
        }
        due("as often as it is asked", x.wet(0, 1), 4);
    }

    private static void fellOnDays() {
        WeatherPass x = withLand("v2,09,09-p3;75");
        int[][] falls = {{0, 4, 6}, {0, 3, 6}};
        for (int f = 0; f < 2; f++) {
            for (int t = 0; t <= 2; t++) {
                due("fell(" + f + ", " + t + ")", x.fell(f, t), falls[f][t]);
            }
        }
        due("as often as it is asked", x.fell(0, 1), 4);
    }

    private static void dayAndFieldOfFlood() {
        for (int day = 0; day < 8; day++) {
            WeatherPass x = withLand("v2,09,08-p9;" + "0".repeat(day) + "9" + "9".repeat(7 - day));
            due("the day", x.flood(0), day);
            due("the field", x.flood(1), 1);
        }
        for (int field = 0; field < 6; field++) {
            String fields = ",09".repeat(field) + ",08" + ",00".repeat(5 - field);
            String posts = "-p9".repeat(field) + "-p0".repeat(5 - field);
            due("the field", withLand("v6" + fields + posts + ";9").flood(1), field);
        }
    }

    private static void noFlood() {
        WeatherPass x = withLand("v2,09,09-p9;90000000");
        due("no day", x.flood(0), NONE);
        due("no field", x.flood(1), NONE);
        due("rain", x.rain(7, 9), 0);
        due("a day", x.flood(0), 7);
        due("a field", x.flood(1), 1);
    }

    private static void enoughAsASet() {
        due("all of six", withLand("v6,09,09,09,09,09,09-p0-p0-p0-p0-p0;0").enough(), 63);
        due("none of six", withLand("v6,19,19,19,19,19,19-p0-p0-p0-p0-p0;0").enough(), 0);
        due("the last of six", withLand("v6,19,19,19,19,19,19-p9-p9-p9-p9-p9;1").enough(), 32);
        due("the first of six", withLand("v6,19,19,19,19,19,19-p0-p9-p9-p9-p9;1").enough(), 1);
    }

    // ---- promise 12

    private static final int[][] PLANS = {{0, 0}, {3, 0}, {0, 3}, {1, 0}, {2, 2}};

    private static void ofPlans(int what, int... wanted) {
        WeatherPass x = withLand(PLANNED);
        for (int k = 0; k < PLANS.length; k++) {
            writeRow(x, 1, INTS, PLANS[k]);
            due("plan " + k + " of " + what, x.plan(1, INTS, 0, 2, what), wanted[k]);
        }
    }

    private static void planOfCells() {
        for (int k = 0; k < 4; k++) {
            for (int lane = 0; lane < 3; lane++) {
                WeatherPass x = withLand("v6,09,09,09,09,09,09-p0-p0-p0-p0-p0;12345678");
                writeRow(x, k, lane, 99, -1, 31, 0, 31, 0, 31, 0, 31, 0, 99, 99);
                due("from 2 on", x.plan(k, lane, 2, 8, 25), 1 + 3 + 5 + 7);
                due("from 2 on", x.plan(k, lane, 2, 8, 20), 2 + 4 + 6 + 8);
                due("from 1 on", x.plan(k, lane, 1, 8, 20), OUTSIDE);
                due("it is told, not kept", x.fell(5, 8), 0);
            }
        }
        WeatherPass x = withLand("v2,09,09-p0;5");
        writeRow(x, 1, BYTES, 257, 256, 1 - 256);
        due("as it was cut: 1", x.plan(1, BYTES, 0, 1, 21), 5);
        due("as it was cut: 0", x.plan(1, BYTES, 1, 1, 21), 0);
        due("as it was cut: 1", x.plan(1, BYTES, 2, 1, 21), 5);
    }

    private static void planFloods() {
        ofPlans(0, 0, 2, 0, 0, 0);
        WeatherPass x = withLand("v6,00,00,00,00,00,00-p1-p1-p1-p1-p1;99999999");
        writeRow(x, 1, BYTES, 0, 0, 0, 0, 0, 0, 0, 0);
        due("two fields on eight days", x.plan(1, BYTES, 0, 8, 0), 16);
        x = withLand("v6,00,00,00,00,00,00-p5-p4-p3-p2-p1;99999999");
        writeRow(x, 1, BYTES, 0, 0, 0, 0, 0, 0, 0, 0);
        due("all fields on all days", x.plan(1, BYTES, 0, 8, 0), 48);
        x = withLand("v2,09,09-p0;9");
        writeRow(x, 1, BYTES, 1);
        due("none", x.plan(1, BYTES, 0, 1, 0), 0);
    }

    private static void planFirstFlood() {
        ofPlans(1, NONE, 0, NONE, NONE, NONE);
        ofPlans(2, NONE, 2, NONE, NONE, NONE);
        WeatherPass x = withLand("v6,05,05,05,05,05,05-p0-p0-p0-p0-p0;55555556");
        writeRow(x, 1, BYTES, 31, 15, 7, 3, 1, 0, 31, 31);
        due("the first day", x.plan(1, BYTES, 0, 8, 1), 7);
        due("the last field", x.plan(1, BYTES, 0, 8, 2), 5);
    }

    private static void planEnough() {
        ofPlans(3, 3, 6, 6, 2, 5);
        WeatherPass x = withLand("v6,09,09,09,09,09,99-p0-p0-p0-p0-p0;9");
        writeRow(x, 1, BYTES, 31, 0);
        due("all", x.plan(1, BYTES, 0, 1, 3), 63);
        due("all but the last", x.plan(1, BYTES, 1, 1, 3), 31);
    }

    private static void planOfFields(int from, int[][] wanted) {
        for (int f = 0; f < 3; f++) {
            int[] ofField = new int[PLANS.length];
            for (int k = 0; k < PLANS.length; k++) {
                ofField[k] = wanted[k][f];
            }
            ofPlans(from + f, ofField);
        }
        for (int fields = 2; fields <= 6; fields++) {
            WeatherPass x = withLand("v" + fields + ",00".repeat(fields) + "-p9".repeat(fields - 1) + ";9");
            writeRow(x, 1, BYTES, 0);
            for (int f = 0; f < 6; f++) {
                due("field " + f + " of " + fields, x.plan(1, BYTES, 0, 1, from + f),
                    f >= fields ? NONE : f == fields - 1 ? 9 : 0);
            }
            due("no seventh", x.plan(1, BYTES, 0, 1, from + 6), OUTSIDE);
            due("none ahead of field 0", x.plan(1, BYTES, 0, 1, from - 1), OUTSIDE);
            due("fault", x.fault(), 0);
        }
    }

    private static void planWhats() {
        refusedOfFaultsEach("what", NO_WHATS, (x, what) -> x.plan(1, INTS, 0, 4, what), OUTSIDE);
        WeatherPass x = withLand("v6,00,00,00,00,00,00-p0-p0-p0-p0-p0;0");
        writeRow(x, 1, BYTES, 0);
        for (int what : WHATS) {
            due("what " + what, x.plan(1, BYTES, 0, 1, what), what == 1 || what == 2 ? NONE : what == 3 ? 63 : 0);
        }
    }

    private static void planCastAndNull() {
        faulted("shorts, not ints", x -> x.plan(1, SHORTS, 0, 4, 0), CAST);
        faulted("bytes, not ints", x -> x.plan(1, BYTES, 0, 4, 0), CAST);
        faulted("ints, not shorts", x -> x.plan(0, INTS, 0, 4, 0), CAST);
        faulted("ints, not bytes", x -> x.plan(2, INTS, 0, 4, 0), CAST);
        for (int lane = 0; lane < 3; lane++) {
            int asLane = lane;
            faulted("nothing is no CAST", x -> x.plan(3, asLane, 0, 4, 0), NULL);
        }
    }

    private static void planIndex() {
        int[][] beyond = {{3, 4}, {0, 7}, {6, 1}, {7, 0}, {-1, 0}, {-1, 4}, {-4, 4}, {2, Integer.MAX_VALUE},
            {Integer.MAX_VALUE, 4}, {Integer.MAX_VALUE, 0}, {Integer.MIN_VALUE, 0},
            {Integer.MIN_VALUE, Integer.MAX_VALUE}, {Integer.MAX_VALUE, Integer.MAX_VALUE}};
        for (int[] c : beyond) {
            faulted(c[1] + " cells from " + c[0] + " on", x -> x.plan(1, INTS, c[0], c[1], 0), INDEX);
        }
        WeatherPass x = withLand();
        writeRow(x, 1, INTS, 99, 99, 0, 0, 0, 0);
        due("the last four", x.plan(1, INTS, 2, 4, 10), 9);
        due("beyond by one", x.plan(1, INTS, 3, 4, 10), INDEX);
        due("none at the end is no INDEX", x.plan(1, INTS, 6, 0, 10), OUTSIDE);
        due("none beyond it is", x.plan(1, INTS, 7, 0, 10), INDEX);
    }

    private static void planWithoutLand() {
        for (int what : WHATS) {
            stays(Bench::bare, "what " + what, x -> x.plan(1, INTS, 0, 4, what), STATE, 0);
        }
        stays(Bench::bare, "no cells for no days", x -> x.plan(1, INTS, 0, 0, 0), STATE, 0);
    }

    private static void planOfOtherDays() {
        for (int n : new int[] {0, 1, 3, 5, 6}) {
            refusedOfFaults(n + " cells for four days", x -> x.plan(1, INTS, 0, n, 0), OUTSIDE);
        }
        for (int days = 1; days <= 8; days++) {
            WeatherPass x = withLand("v2,09,09-p0;" + "1".repeat(days));
            writeRow(x, 1, BYTES, 0, 0, 0, 0, 0, 0, 0, 0, 0);
            for (int n = 0; n <= 9; n++) {
                due(n + " cells for " + days + " days", x.plan(1, BYTES, 0, n, 20), n == days ? n : OUTSIDE);
            }
        }
    }

    private static void planOfOtherPosts() {
        refusedOfFaults("-1 on the last day", x -> x.plan(1, INTS, 2, 4, 0), OUTSIDE);
        for (int fields = 2; fields <= 6; fields++) {
            int sets = 1 << fields - 1;
            int[] none = {sets, sets + 1, 32, 64, -1, -sets, 127, -128, 256, 65536, 1 << 30, Integer.MIN_VALUE,
                Integer.MIN_VALUE + 1, Integer.MAX_VALUE};
            WeatherPass x = withLand(text(fields, 3));
            for (int set : none) {
                for (int day = 0; day < 3; day++) {
                    writeRow(x, 1, INTS, 0, 0, 0);
                    x.put(1, day, set);
                    due(set + " on day " + day + " of " + fields + " fields", x.plan(1, INTS, 0, 3, 1), OUTSIDE);
                }
            }
            writeRow(x, 1, INTS, sets - 1, 0, sets - 1);
            due("all posts", x.plan(1, INTS, 0, 3, 3) >= 0 ? 1 : 0, 1);
        }
    }

    private static void planOrder() {
        refusedOfFaults("UNKNOWN ahead of all", x -> x.plan(4, 3, -1, -1, 4), UNKNOWN);
        refusedOfFaults("UNKNOWN ahead of OUTSIDE: what", x -> x.plan(-1, INTS, 0, 4, 4), UNKNOWN);
        refusedOfFaults("lane ahead of NULL", x -> x.plan(3, 3, 0, 4, 0), OUTSIDE);
        refusedOfFaults("what ahead of NULL", x -> x.plan(3, INTS, 0, 4, 4), OUTSIDE);
        refusedOfFaults("what ahead of CAST", x -> x.plan(1, BYTES, 0, 4, 16), OUTSIDE);
        refusedOfFaults("what ahead of SIZE", x -> x.plan(1, INTS, 0, -1, 26), OUTSIDE);
        refusedOfFaults("lane ahead of INDEX", x -> x.plan(1, -1, 7, 4, 0), OUTSIDE);
        faulted("NULL ahead of SIZE", x -> x.plan(3, INTS, -1, -1, 0), NULL);
        faulted("CAST ahead of SIZE", x -> x.plan(1, BYTES, 0, -1, 0), CAST);
        faulted("CAST ahead of INDEX", x -> x.plan(1, BYTES, 7, 4, 0), CAST);
        faulted("SIZE ahead of INDEX", x -> x.plan(1, INTS, 7, -1, 0), SIZE);
        faulted("INDEX ahead of OUTSIDE: n", x -> x.plan(1, INTS, 0, 7, 0), INDEX);
        stays(Bench::bare, "OUTSIDE: what ahead of STATE", x -> x.plan(1, INTS, 0, 4, 4), OUTSIDE, 0);
        stays(Bench::bare, "NULL ahead of STATE", x -> x.plan(3, INTS, 0, 4, 0), NULL, 1);
        stays(Bench::bare, "CAST ahead of STATE", x -> x.plan(1, BYTES, 0, 4, 0), CAST, 2);
        stays(Bench::bare, "INDEX ahead of STATE", x -> x.plan(1, INTS, 3, 4, 0), INDEX, 3);
        stays(Bench::bare, "SIZE ahead of STATE", x -> x.plan(1, INTS, 0, -1, 0), SIZE, 4);
        stays(Bench::bare, "STATE ahead of OUTSIDE: n, a cell", x -> x.plan(1, INTS, 1, 5, 0), STATE, 0);
    }
}
