import java.math.BigInteger;

/** What posts tell, how they are stamped, TRACE, fault() and how many there are, promises 27 to 32. */
final class PartSentences extends Bench {
    private static final int[] POST_BODIES = {1}, CUSTOMS_BODIES = {2, 1}, FREE_BODIES = {3, 2, 1, 1};
    private static final String ALL_KINDS = "v6,00,00,00,00,00,00-p0-c9-f9-c0-f0;1";

    private PartSentences() {
    }

    static void tell(Sentences s) {
        s.of("Terms");
        s.says("TELLING of POSTS by bodies that leave their number in TRACE", PartSentences::bodiesLeaveNumbers);
        s.says("(an int that wraps, 0 at first, becomes 31 times it and the number)", PartSentences::traceWraps);
        s.says("as they begin: POST (1): its LIMIT.", PartSentences::postTells);
        s.says("CUSTOMS (2): what POST's gives, and 100.", PartSentences::customsTells);
        s.says("FREE (3): what CUSTOMS's gives, and what POST's gives (CUSTOMS's left out).", PartSentences::freeTells);
        s.says("STAMPED by a lent body (4): its number", PartSentences::lentStamp);
        s.says("FREE ones have their own (5): 30.", PartSentences::freeStamp);
        s.of("Promise 27");
        s.says("TELLING of a POST.", PartSentences::tellOfEach);
        s.says("UNKNOWN.", () -> unknownPosts("tell", WeatherPass::tell));
        s.of("Promise 28");
        s.says("How it is STAMPED.", PartSentences::stampOfEach);
        s.says("UNKNOWN.", () -> unknownPosts("stamp", WeatherPass::stamp));
        s.of("Promise 29");
        s.says("A POST, taken as one of a kind: 1.", PartSentences::asOwnKind);
        s.says("UNKNOWN", PartSentences::asOfNoPost);
        s.says("OUTSIDE", () -> {
            for (int p = 0; p < 3; p++) {
                int post = p;
                refusedOfFaultsEach("kind", beyond(0, 2), (x, kind) -> x.as(post, kind), OUTSIDE);
            }
        });
        s.says("CAST: it is none", PartSentences::asOtherKind);
        s.says("(each is a POST, too; a FREE one is a CUSTOMS).", PartSentences::asWiderKind);
        s.says("UNKNOWN; OUTSIDE; CAST: it is none", () -> {
            refusedOfFaults("UNKNOWN ahead of OUTSIDE", x -> x.as(3, 3), UNKNOWN);
            refusedOfFaults("UNKNOWN ahead of CAST", x -> x.as(3, 2), UNKNOWN);
            refusedOfFaults("OUTSIDE, no CAST", x -> x.as(0, 3), OUTSIDE);
        });
        s.of("Promise 30");
        s.says("TRACE.", PartSentences::traceStays);
        s.of("Promise 31");
        s.says("The FAULT of the latest call that names one", PartSentences::latestFault);
        s.says("0: it came to none", PartSentences::noFaultBehindGoodCalls);
        s.says("or was refused", PartSentences::noFaultBehindRefusals);
        s.says("(0 ahead of any).", () -> {
            WeatherPass x = new WeatherPass();
            due("fault", x.fault(), 0);
            due("a call that names none", x.many(0), 0);
            due("fault", x.fault(), 0);
        });
        s.of("Promise 32");
        s.says("How many: 0 POSTS, 1 FIELDS, 2 DAYS, 3 READINGS", PartSentences::howMany);
        s.says("(0 all without a LAND)", PartSentences::howManyWithoutLand);
        s.says("OUTSIDE.", () -> {
            refusedEach("what", beyond(0, 3), (x, what) -> x.many(what), OUTSIDE);
            stays(Bench::bare, "without a land", x -> x.many(4), OUTSIDE, 1);
            stays(Bench::bare, "without a land", x -> x.many(-1), OUTSIDE, 1);
        });
    }

    /** TRACE behind bodies, by numbers without an end that are cut to an int. */
    private static int behind(int trace, int... bodies) {
        BigInteger longer = BigInteger.valueOf(trace);
        for (int body : bodies) {
            longer = longer.multiply(BigInteger.valueOf(31)).add(BigInteger.valueOf(body));
        }
        return longer.intValue();
    }

    // ---- telling

    private static void bodiesLeaveNumbers() {
        WeatherPass x = withLand();
        due("at first", x.trace(), 0);
        due("a post", x.tell(0), 3);
        due("POST's", x.trace(), 1);
        due("the next", x.tell(0), 3);
        due("POST's again", x.trace(), 32);
        x = withLand();
        due("a customs", x.tell(1), 104);
        due("CUSTOMS's, then POST's", x.trace(), 63);
        x = withLand();
        due("a free one", x.tell(2), 104);
        due("FREE's, CUSTOMS's, POST's, POST's", x.trace(), 3 * 29791 + 2 * 961 + 31 + 1);
        x = withLand();
        due("lent", x.stamp(0), 0);
        due("4", x.trace(), 4);
        x = withLand();
        due("own", x.stamp(2), 30);
        due("5", x.trace(), 5);
    }

    private static void traceWraps() {
        WeatherPass x = withLand();
        int trace = 0;
        int below = 0;
        for (int k = 0; k < 40; k++) {
            due("a lent stamp", x.stamp(1), 1);
            trace = behind(trace, 4);
            due("behind " + (k + 1), x.trace(), trace);
            below += trace < 0 ? 1 : 0;
            due("a free one", x.tell(2), 104);
            trace = behind(trace, FREE_BODIES);
            due("behind it", x.trace(), trace);
        }
        due("it was below 0 at times", below > 5 && below < 35 ? 1 : 0, 1);
        x = withLand();
        int[] traces = {4, 128, 3972, 123136, 3817220, 118333824, -626618748};
        for (int wanted : traces) {
            due("a lent stamp", x.stamp(0), 0);
            due("the seventh wraps", x.trace(), wanted);
        }
    }

    private static void postTells() {
        for (int limit = 0; limit <= 9; limit++) {
            WeatherPass x = withLand("v2,00,00-p" + limit + ";1");
            due("its limit", x.tell(0), limit);
            due("trace", x.trace(), behind(0, POST_BODIES));
        }
    }

    private static void customsTells() {
        for (int limit = 0; limit <= 9; limit++) {
            WeatherPass x = withLand("v2,00,00-c" + limit + ";1");
            due("and 100", x.tell(0), limit + 100);
            due("trace", x.trace(), behind(0, CUSTOMS_BODIES));
        }
    }

    private static void freeTells() {
        for (int limit = 0; limit <= 9; limit++) {
            WeatherPass x = withLand("v2,00,00-f" + limit + ";1");
            due("twice, and 100 once", x.tell(0), 2 * limit + 100);
            due("trace", x.trace(), behind(0, FREE_BODIES));
        }
    }

    private static void lentStamp() {
        for (char kind : new char[] {'p', 'c'}) {
            WeatherPass x = withLand("v6,00,00,00,00,00,00" + ("-" + kind + "7").repeat(5) + ";1");
            int trace = 0;
            for (int p = 0; p < 5; p++) {
                due("its number", x.stamp(p), p);
                trace = behind(trace, 4);
                due("trace", x.trace(), trace);
            }
        }
    }

    private static void freeStamp() {
        WeatherPass x = withLand("v6,00,00,00,00,00,00-f0-f1-f2-f3-f9;1");
        int trace = 0;
        for (int p = 0; p < 5; p++) {
            due("30", x.stamp(p), 30);
            trace = behind(trace, 5);
            due("trace", x.trace(), trace);
        }
    }

    private static void tellOfEach() {
        WeatherPass x = withLand(ALL_KINDS);
        int[] tellings = {0, 109, 118, 100, 100};
        int[][] bodies = {POST_BODIES, CUSTOMS_BODIES, FREE_BODIES, CUSTOMS_BODIES, FREE_BODIES};
        int trace = 0;
        for (int p = 0; p < 5; p++) {
            due("tell " + p, x.tell(p), tellings[p]);
            trace = behind(trace, bodies[p]);
            due("trace", x.trace(), trace);
        }
        due("a limit", x.limit(0, 9), 0);
        due("tell by its new limit", x.tell(0), 9);
        due("it stays", x.ofPost(0, 1), 9);
    }

    private static void stampOfEach() {
        WeatherPass x = withLand(ALL_KINDS);
        int[] stamps = {0, 1, 30, 3, 30};
        for (int p = 0; p < 5; p++) {
            due("stamp " + p, x.stamp(p), stamps[p]);
        }
        due("trace", x.trace(), behind(0, 4, 4, 5, 4, 5));
    }

    // ---- promise 29

    private static void asOwnKind() {
        WeatherPass x = withLand(ALL_KINDS);
        int[] kinds = {0, 1, 2, 1, 2};
        for (int p = 0; p < 5; p++) {
            due("as its own kind", x.as(p, kinds[p]), 1);
            due("fault", x.fault(), 0);
            due("it stays", x.ofPost(p, 0), kinds[p]);
        }
        for (int p = 0; p < 3; p++) {
            int post = p;
            stays(Bench::furnished, "as its own kind", y -> y.as(post, post), 1, 0);
        }
    }

    private static void asOfNoPost() {
        refusedOfFaultsEach("post", beyond(0, 2), (x, p) -> x.as(p, 0), UNKNOWN);
        stays(Bench::bare, "without a land", x -> x.as(0, 0), UNKNOWN, 0);
        for (int fields = 2; fields <= 6; fields++) {
            WeatherPass x = withLand(text(fields, 1));
            due("the last", x.as(fields - 2, 0), 1);
            due("one more", x.as(fields - 1, 0), UNKNOWN);
        }
    }

    private static void asOtherKind() {
        faulted("a post is no customs", x -> x.as(0, 1), CAST);
        faulted("a post is no free one", x -> x.as(0, 2), CAST);
        faulted("a customs is no free one", x -> x.as(1, 2), CAST);
    }

    private static void asWiderKind() {
        stays(Bench::furnished, "a customs is a post", x -> x.as(1, 0), 1, 0);
        stays(Bench::furnished, "a free one is a customs", x -> x.as(2, 1), 1, 0);
        stays(Bench::furnished, "a free one is a post", x -> x.as(2, 0), 1, 0);
    }

    // ---- promises 30 to 32

    private static void traceStays() {
        due("0 at first", new WeatherPass().trace(), 0);
        WeatherPass x = furnished();
        int trace = behind(0, FREE_BODIES);
        due("trace", x.trace(), trace);
        due("asked again", x.trace(), trace);
        due("tell of no post", x.tell(3), UNKNOWN);
        due("stamp of no post", x.stamp(-1), UNKNOWN);
        for (Call call : othersThanOfFaults()) {
            call.of(x);
        }
        for (Call call : ofFaults()) {
            call.of(x);
        }
        due("by tell and stamp alone", x.trace(), behind(trace, 1, 4));
        WeatherPass other = withLand();
        due("each has its own", other.trace(), 0);
        due("another's stamp", other.stamp(0), 0);
        due("leaves this one's", x.trace(), behind(trace, 1, 4));
    }

    /** Good calls that name no FAULTS, on a furnished object; tell(0) and stamp(0) are among them. */
    private static Call[] othersThanOfFaults() {
        return new Call[] {x -> x.ofField(0, 0), x -> x.ofPost(0, 0), x -> x.lets(0, 0), x -> x.limit(0, 4),
            x -> x.rain(0, 5), x -> x.wet(0, 0), x -> x.fell(0, 0), x -> x.flood(0), x -> x.enough(), x -> x.papers(),
            x -> x.most(), x -> x.shut(0), x -> x.reading(0, 0, 0), x -> x.back(1), x -> x.limits(0), x -> x.kinds(0),
            x -> x.rains(0), x -> x.odds(0, 0), x -> x.tell(0), x -> x.stamp(0), x -> x.trace(), x -> x.many(0),
            x -> x.fault(), x -> x.lose(3)};
    }

    /** The same calls, refused, on a furnished object. */
    private static Call[] othersRefused() {
        return new Call[] {x -> x.ofField(4, 0), x -> x.ofPost(3, 0), x -> x.lets(0, 100), x -> x.limit(0, 10),
            x -> x.rain(4, 5), x -> x.wet(0, 5), x -> x.fell(4, 0), x -> x.flood(2), x -> x.shut(4),
            x -> x.reading(0, 0, 100), x -> x.back(9), x -> x.limits(3), x -> x.kinds(-1), x -> x.rains(4),
            x -> x.odds(0, 2), x -> x.tell(3), x -> x.stamp(3), x -> x.many(4), x -> x.lose(4)};
    }

    /** Good calls that name FAULTS, on a furnished object. */
    private static Call[] ofFaults() {
        return new Call[] {x -> x.land(0, SHORTS, 0, 28), x -> x.plan(1, INTS, 0, 4, 0), x -> x.cell(1, 0, INTS),
            x -> x.copy(1, 0, 1, 1, 2), x -> x.put(1, 0, 0), x -> x.as(0, 0), x -> x.sheet(3, 0, 1)};
    }

    /** Refused calls that name FAULTS, on a furnished object. */
    private static Call[] ofFaultsRefused() {
        return new Call[] {x -> x.land(4, SHORTS, 0, 28), x -> x.land(0, 3, 0, 28), x -> x.plan(-1, INTS, 0, 4, 0),
            x -> x.plan(1, 3, 0, 4, 0), x -> x.plan(1, INTS, 0, 4, 4), x -> x.plan(1, INTS, 0, 3, 0),
            x -> x.plan(1, INTS, 2, 4, 0), x -> x.cell(4, 0, INTS), x -> x.cell(1, 0, 3), x -> x.copy(4, 0, 1, 0, 1),
            x -> x.copy(1, 0, -1, 0, 1), x -> x.put(4, 0, 0), x -> x.as(3, 0), x -> x.as(0, 3), x -> x.sheet(4, 0, 1),
            x -> x.sheet(0, 3, 1), x -> x.sheet(0, 0, 61)};
    }

    /** A furnished object whose latest fault is as told. */
    private static WeatherPass withFault(int fault) {
        WeatherPass x = furnished();
        switch (fault) {
            case 1:
                due("NULL", x.put(3, 0, 0), NULL);
                break;
            case 2:
                due("CAST", x.as(0, 2), CAST);
                break;
            case 3:
                due("INDEX", x.put(0, 28, 0), INDEX);
                break;
            default:
                due("SIZE", x.sheet(0, 0, -1), SIZE);
                break;
        }
        due("fault", x.fault(), fault);
        due("asked again", x.fault(), fault);
        return x;
    }

    private static void latestFault() {
        Call[] faulty = {x -> x.land(3, 0, 0, 0), x -> x.land(0, 0, 0, 0), x -> x.land(0, 1, -1, 0),
            x -> x.land(0, 1, 0, -1), x -> x.plan(3, 0, 0, 0, 0), x -> x.plan(0, 0, 0, 0, 0),
            x -> x.plan(1, 2, 7, 0, 0), x -> x.plan(1, 2, 0, -1, 0), x -> x.cell(3, 0, 0), x -> x.cell(0, 0, 0),
            x -> x.cell(0, 28, 1), x -> x.copy(3, 0, 0, 0, 0), x -> x.copy(0, 0, 1, 0, 0), x -> x.copy(0, 0, 0, 0, -1),
            x -> x.put(3, 0, 0), x -> x.put(0, -1, 0), x -> x.as(0, 1), x -> x.sheet(0, 0, -1)};
        int[] faults = {1, 2, 3, 4, 1, 2, 3, 4, 1, 2, 3, 1, 2, 3, 1, 3, 2, 4};
        for (int k = 0; k < faulty.length; k++) {
            for (int before = 1; before <= 4; before++) {
                WeatherPass x = withFault(before);
                long told = faulty[k].of(x);
                due("call " + k + " behind fault " + before, told, told == LOST ? LOST : -10 - faults[k]);
                due("fault", x.fault(), faults[k]);
            }
            for (Call call : othersThanOfFaults()) {
                WeatherPass x = furnished();
                faulty[k].of(x);
                call.of(x);
                due("a call that names none leaves it", x.fault(), faults[k]);
            }
            for (Call call : othersRefused()) {
                WeatherPass x = furnished();
                faulty[k].of(x);
                due("refused", call.of(x) < 0 ? 1 : 0, 1);
                due("one that is refused, too", x.fault(), faults[k]);
            }
        }
    }

    private static void noFaultBehindGoodCalls() {
        for (int fault = 1; fault <= 4; fault++) {
            for (Call call : ofFaults()) {
                WeatherPass x = withFault(fault);
                due("a good call", call.of(x) >= 0 ? 1 : 0, 1);
                due("fault", x.fault(), 0);
            }
            WeatherPass x = withFault(fault);
            due("a FIRST FAULT is no fault", x.land(0, SHORTS, 0, 3), -103);
            due("fault", x.fault(), 0);
        }
    }

    private static void noFaultBehindRefusals() {
        for (int fault = 1; fault <= 4; fault++) {
            for (Call call : ofFaultsRefused()) {
                WeatherPass x = withFault(fault);
                long told = call.of(x);
                due("refused", told == LOST || told == UNKNOWN || told == OUTSIDE ? 1 : 0, 1);
                due("fault", x.fault(), 0);
            }
        }
        stays(Bench::bare, "plan without a land", x -> x.plan(1, INTS, 0, 4, 0), STATE, 0);
        stays(Bench::bare, "as without a land", x -> x.as(0, 0), UNKNOWN, 0);
    }

    private static void howMany() {
        for (int fields = 2; fields <= 6; fields++) {
            for (int days = 1; days <= 8; days++) {
                WeatherPass x = withLand(text(fields, days));
                for (int k = 0; k <= days; k++) {
                    due("posts", x.many(0), fields - 1);
                    due("fields", x.many(1), fields);
                    due("days", x.many(2), days);
                    due("readings", x.many(3), k);
                    due("one more", x.reading(0, 0, 0), k < 8 ? k : FULL);
                }
            }
        }
    }

    private static void howManyWithoutLand() {
        WeatherPass x = bare();
        due("a text that is not taken", x.land(0, SHORTS, 0, 24), -124);
        due("a reading of no field", x.reading(0, 0, 0), UNKNOWN);
        for (int what = 0; what < 4; what++) {
            due("many " + what, x.many(what), 0);
        }
        due("a land", x.land(0, SHORTS, 0, 28), 3);
        int[] wanted = {3, 4, 4, 0};
        for (int what = 0; what < 4; what++) {
            due("many " + what, x.many(what), wanted[what]);
        }
    }
}
