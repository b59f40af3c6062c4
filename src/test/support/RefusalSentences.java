/** What holds for all calls: refusals, faults, how answers are told, how many calls there are. */
final class RefusalSentences extends Bench {
    private RefusalSentences() {
    }

    static void tell(Sentences s) {
        s.of("What it is");
        s.says("An object is used for at most 512 calls after it has been made", RefusalSentences::upTo512Calls);
        s.of("Terms");
        s.says("REFUSALS, in the order in which a call's line tells them:", RefusalSentences::orderOfRefusals);
        s.says("UNKNOWN (there is no such FIELD, POST, SHEET, place of a row)", RefusalSentences::unknown);
        s.says("OUTSIDE (another number is not as told)", RefusalSentences::outside);
        s.says("STATE (as told)", RefusalSentences::state);
        s.says("FULL;", () -> {
            stays(Bench::full, "a ninth reading", x -> x.reading(3, 4, 99), FULL, 1);
            due("an eighth", fullButOne().reading(3, 4, 99), 7);
        });
        s.says("they change nothing", RefusalSentences::changeNothing);
        s.says("(but fault(), of a call that names FAULTS).", RefusalSentences::changeFault);
        s.says("FAULTS are the machine's: 1 NULL (there is nothing)", RefusalSentences::nothing);
        s.says("2 CAST (it is of another lane, kind)", RefusalSentences::otherLaneOrKind);
        s.says("3 INDEX (of cells from i on also where i is not 0 .. how many there are, if none of them is taken, "
            + "too)", RefusalSentences::noneTakenBeyond);
        s.says("4 SIZE (a length below 0).", RefusalSentences::lengthBelow0);
        s.says("Of a call the first that is come to, in the order told", RefusalSentences::firstFault);
        s.says("it answers -10 less it (LOST, where a long is answered, as for refusals)", RefusalSentences::answers);
        s.says("and changes nothing; fault() tells it.", RefusalSentences::faultsChangeNothing);
        s.says("NONE is -9.", RefusalSentences::none);
        s.says("Sets are told as bits (bit k for number k).", RefusalSentences::sets);
        s.says("Shares are told as upper and lower number (above 0) in least terms.", RefusalSentences::shares);
    }

    private static WeatherPass fullButOne() {
        WeatherPass x = full();
        due("back", x.back(1), 7);
        return x;
    }

    private static void upTo512Calls() {
        WeatherPass x = new WeatherPass();
        write(x, 0, BYTES, "v6,00,00,00,00,00,00-f9-f9-f9-f9-f9;99999999");
        due("the 46th call", x.land(0, BYTES, 0, 44), 5);
        int trace = 0;
        // Calls 47 to 511, the dearest among them.
        for (int call = 47; call < 512; call += 5) {
            due("odds", x.odds(5, 0) * 1000 + x.odds(5, 1), 255256);
            due("most", x.most(), 0);
            due("limits", x.limits(0), 1023);
            due("tell", x.tell(4), 118);
            trace = (((31 * trace + 3) * 31 + 2) * 31 + 1) * 31 + 1;
        }
        due("the 512th", x.trace(), trace);
        x = new WeatherPass();
        for (int call = 1; call < 511; call++) {
            due("a new row", x.sheet(call % 4, call % 3, 60), 1);
        }
        due("the 511th", x.put(0, 59, 7), 1);
        due("the 512th", x.cell(0, 59, 508 % 3), 7);
    }

    // ---- refusals

    private static void orderOfRefusals() {
        refused("ofField", x -> x.ofField(-1, -1), UNKNOWN);
        refused("ofPost", x -> x.ofPost(-1, -1), UNKNOWN);
        refused("lets", x -> x.lets(-1, -1), UNKNOWN);
        refused("limit", x -> x.limit(-1, -1), UNKNOWN);
        refused("wet", x -> x.wet(-1, -1), UNKNOWN);
        refused("fell", x -> x.fell(-1, -1), UNKNOWN);
        refused("reading", x -> x.reading(-1, -1, -1), UNKNOWN);
        refused("odds", x -> x.odds(-1, -1), LOST);
        refusedOfFaults("land", x -> x.land(-1, -1, -1, -1), UNKNOWN);
        refusedOfFaults("plan", x -> x.plan(-1, -1, -1, -1, -1), UNKNOWN);
        refusedOfFaults("sheet", x -> x.sheet(-1, -1, -1), UNKNOWN);
        refusedOfFaults("put", x -> x.put(-1, -1, -1), UNKNOWN);
        refusedOfFaults("cell", x -> x.cell(-1, -1, -1), LOST);
        refusedOfFaults("copy", x -> x.copy(-1, -1, -1, -1, -1), UNKNOWN);
        refusedOfFaults("as", x -> x.as(-1, -1), UNKNOWN);
        stays(Bench::full, "reading: OUTSIDE ahead of FULL", x -> x.reading(0, -1, -1), OUTSIDE, 1);
        stays(Bench::bare, "rain: STATE ahead of OUTSIDE", x -> x.rain(-1, -1), STATE, 1);
        stays(Bench::bare, "rains: STATE ahead of OUTSIDE", x -> x.rains(-1), STATE, 1);
        stays(Bench::bare, "flood: OUTSIDE ahead of STATE", x -> x.flood(-1), OUTSIDE, 1);
        stays(Bench::bare, "plan: STATE ahead of OUTSIDE", x -> x.plan(1, INTS, 0, 1, 0), STATE, 0);
    }

    private static void unknown() {
        for (int fields = 2; fields <= 6; fields++) {
            WeatherPass x = withLand(text(fields, 2));
            int last = fields - 1;
            due("no such field: ofField", x.ofField(fields, 0), UNKNOWN);
            due("the last", x.ofField(last, 0), fields);
            due("no such post: ofPost", x.ofPost(last, 1), UNKNOWN);
            due("the last", x.ofPost(last - 1, 1), fields);
            due("no such post: limit", x.limit(last, 0), UNKNOWN);
            due("the last", x.limit(last - 1, 0), fields);
            due("no such post: lets", x.lets(last, 9), UNKNOWN);
            due("the last", x.lets(last - 1, 9), 0);
        }
        WeatherPass x = new WeatherPass();
        due("no such sheet", x.sheet(4, 0, 1), UNKNOWN);
        due("the last", x.sheet(3, 0, 1), 1);
        due("no such place of a row is INDEX", x.put(3, 1, 0), INDEX);
        due("the last", x.put(3, 0, 0), 1);
    }

    private static void outside() {
        refused("lets", x -> x.lets(0, 100), OUTSIDE);
        refused("limit", x -> x.limit(0, 10), OUTSIDE);
        refused("rain", x -> x.rain(0, 10), OUTSIDE);
        refused("rain", x -> x.rain(4, 9), OUTSIDE);
        refused("wet", x -> x.wet(0, 5), OUTSIDE);
        refused("flood", x -> x.flood(2), OUTSIDE);
        refused("reading", x -> x.reading(0, 0, 100), OUTSIDE);
        refused("back", x -> x.back(3), OUTSIDE);
        refused("many", x -> x.many(4), OUTSIDE);
        WeatherPass x = furnished();
        int[] taken = {x.lets(0, 99), x.flood(1), x.limit(0, 9), x.rain(0, 9), x.rain(3, 9), x.back(2), x.many(3)};
        int[] due = {4, 0, 4, 5, 7, 0, 0};
        for (int k = 0; k < taken.length; k++) {
            due("the last number that is taken, " + k, taken[k], due[k]);
        }
    }

    private static void state() {
        Call[] calls = {x -> x.rain(0, 0), x -> x.flood(0), x -> x.enough(), x -> x.papers(), x -> x.most(),
            x -> x.rains(0)};
        for (int k = 0; k < calls.length; k++) {
            stays(Bench::bare, "call " + k + " without a land", calls[k], STATE, 1);
            stays(WeatherPass::new, "call " + k + " of a new object", calls[k], STATE, 0);
            long told = calls[k].of(furnished());
            due("call " + k + " with a land", told == STATE ? 1 : 0, 0);
        }
        stays(Bench::bare, "plan", x -> x.plan(1, INTS, 0, 4, 0), STATE, 0);
    }

    private static Call[] refusedCalls() {
        return new Call[] {x -> x.ofField(4, 0), x -> x.ofField(0, 2), x -> x.ofPost(3, 0), x -> x.ofPost(0, 2),
            x -> x.lets(3, 0), x -> x.lets(0, 100), x -> x.limit(3, 1), x -> x.limit(0, 10), x -> x.limit(0, -1),
            x -> x.rain(4, 1), x -> x.rain(-1, 1), x -> x.rain(0, 10), x -> x.rain(0, -1), x -> x.wet(4, 0),
            x -> x.wet(0, 5), x -> x.fell(4, 0), x -> x.fell(0, 5), x -> x.flood(2), x -> x.shut(4),
            x -> x.reading(4, 0, 0), x -> x.reading(0, 5, 0), x -> x.reading(0, 0, 100), x -> x.reading(0, 0, -1),
            x -> x.back(3), x -> x.back(-1), x -> x.limits(3), x -> x.kinds(3), x -> x.rains(4), x -> x.odds(4, 0),
            x -> x.odds(0, 2), x -> x.lose(4), x -> x.lose(-1), x -> x.tell(3), x -> x.tell(-1), x -> x.stamp(3),
            x -> x.many(4)};
    }

    private static Call[] refusedCallsOfFaults() {
        return new Call[] {x -> x.land(4, 1, 0, 28), x -> x.land(0, 3, 0, 28), x -> x.plan(4, 2, 0, 4, 0),
            x -> x.plan(1, 3, 0, 4, 0), x -> x.plan(1, 2, 0, 4, 16), x -> x.plan(1, 2, 0, 3, 0),
            x -> x.plan(1, 2, 2, 4, 0), x -> x.sheet(4, 0, 1), x -> x.sheet(0, 3, 1), x -> x.sheet(0, 0, 61),
            x -> x.put(4, 0, 1), x -> x.put(-1, 0, 1), x -> x.cell(4, 0, 0), x -> x.cell(0, 0, 3),
            x -> x.copy(4, 0, 0, 1, 1), x -> x.copy(0, 0, 4, 1, 1), x -> x.as(3, 0), x -> x.as(0, 3)};
    }

    private static void changeNothing() {
        for (Call call : refusedCalls()) {
            looksTheSame(call);
        }
        for (Call call : refusedCallsOfFaults()) {
            looksTheSame(call);
        }
    }

    private static void looksTheSame(Call call) {
        WeatherPass x = furnished();
        long told = call.of(x);
        due("refused", told == UNKNOWN || told == OUTSIDE || told == LOST ? 1 : 0, 1);
        due("all is as it was", picture(x).equals(picture(furnished())) ? 1 : 0, 1);
    }

    private static void changeFault() {
        for (Call call : refusedCallsOfFaults()) {
            WeatherPass x = furnished();
            due("refused", call.of(x) < 0 ? 1 : 0, 1);
            due("fault() of a call that names faults", x.fault(), 0);
        }
        for (Call call : refusedCalls()) {
            WeatherPass x = furnished();
            due("refused", call.of(x) < 0 ? 1 : 0, 1);
            due("fault() of a call that names none", x.fault(), 1);
        }
    }

    // ---- faults

    private static void nothing() {
        WeatherPass x = new WeatherPass();
        due("put", x.put(0, 0, 0), NULL);
        due("fault", x.fault(), 1);
        due("a row of no cells is not nothing", x.sheet(0, BYTES, 0), 1);
        due("put", x.put(0, 0, 0), INDEX);
        due("lost", x.lose(0), 1);
        due("put", x.put(0, 0, 0), NULL);
        due("fault", x.fault(), 1);
    }

    private static void otherLaneOrKind() {
        faulted("land", x -> x.land(0, INTS, 0, 28), CAST);
        faulted("plan", x -> x.plan(1, SHORTS, 0, 4, 0), CAST);
        faulted("copy", x -> x.copy(0, 0, 1, 0, 1), CAST);
        faulted("as", x -> x.as(1, 2), CAST);
        lostBy("cell", x -> x.cell(2, 0, INTS), CAST);
    }

    private static void noneTakenBeyond() {
        faulted("land from 29 on", x -> x.land(0, SHORTS, 29, 0), INDEX);
        faulted("land from -1 on", x -> x.land(0, SHORTS, -1, 0), INDEX);
        faulted("plan from 7 on", x -> x.plan(1, INTS, 7, 0, 0), INDEX);
        faulted("plan from -1 on", x -> x.plan(1, INTS, -1, 0, 0), INDEX);
        faulted("copy from 4 on", x -> x.copy(2, 4, 2, 0, 0), INDEX);
        faulted("copy from -1 on", x -> x.copy(2, -1, 2, 0, 0), INDEX);
        faulted("copy to 4 on", x -> x.copy(2, 0, 2, 4, 0), INDEX);
        faulted("copy to -1 on", x -> x.copy(2, 0, 2, -1, 0), INDEX);
        stays(Bench::furnished, "land from 28 on", x -> x.land(0, SHORTS, 28, 0), -100, 0);
        stays(Bench::furnished, "plan from 6 on", x -> x.plan(1, INTS, 6, 0, 0), OUTSIDE, 0);
        stays(Bench::furnished, "copy from 3 on", x -> x.copy(2, 3, 2, 0, 0), 0, 0);
        stays(Bench::furnished, "copy to 3 on", x -> x.copy(2, 0, 2, 3, 0), 0, 0);
    }

    private static void lengthBelow0() {
        faulted("land", x -> x.land(0, SHORTS, 0, -1), SIZE);
        faulted("plan", x -> x.plan(1, INTS, 0, -1, 0), SIZE);
        faulted("sheet", x -> x.sheet(0, SHORTS, -1), SIZE);
        due("a length of 0", furnished().sheet(0, SHORTS, 0), 1);
    }

    private static void firstFault() {
        faulted("land: NULL of all", x -> x.land(3, 0, -1, -1), NULL);
        faulted("land: CAST of all but NULL", x -> x.land(0, 0, -1, -1), CAST);
        faulted("land: SIZE ahead of INDEX", x -> x.land(0, SHORTS, -1, -1), SIZE);
        faulted("plan: NULL of all", x -> x.plan(3, 0, -1, -1, 0), NULL);
        faulted("plan: CAST of all but NULL", x -> x.plan(1, 0, -1, -1, 0), CAST);
        faulted("plan: SIZE ahead of INDEX", x -> x.plan(1, INTS, -1, -1, 0), SIZE);
        faulted("put: NULL ahead of INDEX", x -> x.put(3, -1, 0), NULL);
        faulted("copy: NULL of all", x -> x.copy(3, -1, 0, -1, -1), NULL);
        faulted("copy: CAST ahead of INDEX", x -> x.copy(0, -1, 1, -1, -1), CAST);
        lostBy("cell: NULL ahead of INDEX", x -> x.cell(3, -1, 0), NULL);
        lostBy("cell: CAST ahead of INDEX", x -> x.cell(0, -1, 0), CAST);
    }

    private static void answers() {
        WeatherPass x = furnished();
        due("NULL", x.put(3, 0, 0), -11);
        due("CAST", x.as(0, 1), -12);
        due("INDEX", x.put(0, 28, 0), -13);
        due("SIZE", x.sheet(0, 0, -1), -14);
        due("NULL, as a long", x.cell(3, 0, 0), Long.MIN_VALUE);
        due("CAST, as a long", x.cell(0, 0, 0), Long.MIN_VALUE);
        due("INDEX, as a long", x.cell(0, 28, 1), Long.MIN_VALUE);
        due("a refusal, as a long", x.cell(4, 0, 0), Long.MIN_VALUE);
        due("a refusal, as a long", x.odds(4, 0), Long.MIN_VALUE);
    }

    private static void faultsChangeNothing() {
        faulted("put", x -> x.put(3, 0, 9), NULL);
        faulted("put", x -> x.put(0, 28, 9), INDEX);
        faulted("put", x -> x.put(0, -1, 9), INDEX);
        faulted("as", x -> x.as(0, 2), CAST);
        faulted("sheet", x -> x.sheet(1, INTS, -1), SIZE);
        faulted("sheet of nothing", x -> x.sheet(3, INTS, -1), SIZE);
        faulted("copy of all, and more", x -> x.copy(0, 0, 0, 1, 28), INDEX);
        faulted("copy to another lane", x -> x.copy(1, 0, 2, 0, 3), CAST);
        faulted("copy to nothing", x -> x.copy(1, 0, 3, 0, 3), NULL);
        faulted("land", x -> x.land(0, SHORTS, 0, 29), INDEX);
        faulted("plan", x -> x.plan(1, INTS, 3, 4, 0), INDEX);
        lostBy("cell", x -> x.cell(0, 28, SHORTS), INDEX);
        lostBy("cell", x -> x.cell(0, 0, INTS), CAST);
    }

    // ---- answers

    private static void none() {
        due("no flood", withLand("v2,09,09-p0;0").flood(0), -9);
        due("no papers", withLand("v2,00,00-p0;9").papers(), -9);
        due("none closed", withLand("v2,00,00-p0;9").shut(0), -9);
        WeatherPass x = withLand("v2,00,00-p0;0");
        writeRow(x, 1, BYTES, 0);
        due("no day", x.plan(1, BYTES, 0, 1, 1), -9);
        due("no such field", x.plan(1, BYTES, 0, 1, 12), -9);
    }

    private static void sets() {
        WeatherPass x = withLand("v6,19,19,19,19,19,19-p9-p9-p9-p9-p0;9");
        due("of fields: 4", x.enough(), 16);
        due("of posts: 4", withLand("v6,09,09,09,09,09,99-p9-p9-p9-p9-p0;9").most(), 16);
        due("of posts: 0", withLand("v2,08,09-p0;9").papers(), 1);
        due("of none", withLand("v2,09,09-p0;9").papers(), 0);
        due("of all limits", x.limits(4), 1023);
        due("of all kinds", x.kinds(4), 7);
        due("of all rains", x.rains(0), 1023);
        due("reading", x.reading(4, 1, 9), 0);
        due("of 9", x.rains(0), 512);
        due("of 9", x.limits(0), 512);
        due("of 0", x.limits(4), 1);
        due("of 0 and 2", x.kinds(0), 5);
    }

    private static void shares() {
        String[] lands = {"v2,04,09-p0;4", "v2,04,09-p0;5", "v2,04,09-p0;50000000", "v2,04,09-p0;55",
            "v2,04,09-p0;550", "v2,04,09-p0;55555555", "v2,01,09-p0;00000000", "v2,08,09-p0;22222222"};
        int[][] shares = {{0, 1}, {1, 2}, {1, 2}, {3, 4}, {3, 4}, {255, 256}, {0, 1}, {1, 256}};
        for (int k = 0; k < lands.length; k++) {
            WeatherPass x = withLand(lands[k]);
            due("upper of " + lands[k], x.odds(0, 0), shares[k][0]);
            due("lower of " + lands[k], x.odds(0, 1), shares[k][1]);
        }
    }
}
