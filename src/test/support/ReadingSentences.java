import java.util.List;

/** Readings and what follows from them, odds, promises 16 to 21. */
final class ReadingSentences extends Bench {
    private ReadingSentences() {
    }

    static void tell(Sentences s) {
        s.of("Terms");
        s.says("READINGS, 8 at most, numbered by how many there are", ReadingSentences::eightReadings);
        s.says("behind so many DAYS (without PAPERS) a FIELD was WET by so much.", ReadingSentences::wetBehindDays);
        s.says("All that follows: in place of what it is alone", ReadingSentences::inPlaceAlone);
        s.says(", by which all READINGS are so:", ReadingSentences::byAllReadings);
        s.says("LIMITS of a POST: 0 .. 9, as a set", ReadingSentences::eachLimit);
        s.says("KINDS of a POST: 0 .. 2, as a set", ReadingSentences::eachKind);
        s.says("RAINS of a DAY: 0 .. 9, as a set.", ReadingSentences::eachRain);
        s.says("ODDS of a FIELD: if each DAY has its RAIN, or none, all such sets of DAYS alike: the share by which it "
            + "FLOODS on one of them.", ReadingSentences::oddsOfSets);
        tellOfReadings(s);
        tellOfWhatFollows(s);
    }

    private static void tellOfReadings(Sentences s) {
        s.of("Promise 16");
        s.says("A READING: its number.", ReadingSentences::numbers);
        s.says("UNKNOWN: FIELD", ReadingSentences::readingOfNoField);
        s.says("OUTSIDE: t (0 .. as many DAYS as there are)", ReadingSentences::readingBehindDays);
        s.says(", v (0 .. 99);", ReadingSentences::readingOfWet);
        s.says("FULL.", () -> stays(Bench::full, "a ninth", x -> x.reading(0, 0, 0), FULL, 1));
        s.says("UNKNOWN: FIELD; OUTSIDE: t (0 .. as many DAYS as there are), v (0 .. 99); FULL.", () -> {
            refused("UNKNOWN ahead of OUTSIDE", x -> x.reading(4, 5, 100), UNKNOWN);
            stays(Bench::full, "UNKNOWN ahead of FULL", x -> x.reading(4, 0, 0), UNKNOWN, 1);
            stays(Bench::full, "OUTSIDE: t ahead of FULL", x -> x.reading(0, 5, 0), OUTSIDE, 1);
            stays(Bench::full, "OUTSIDE: v ahead of FULL", x -> x.reading(0, 0, 100), OUTSIDE, 1);
        });
        s.of("Promise 17");
        s.says("The last k READINGS", ReadingSentences::lastAreTakenBack);
        s.says("(0 .. as many as there are) are taken back: how many are left.", ReadingSentences::howManyAreLeft);
        s.says("OUTSIDE.", ReadingSentences::backOutside);
    }

    private static void tellOfWhatFollows(Sentences s) {
        s.of("Promise 18");
        s.says("LIMITS, as a set.", ReadingSentences::limitsAsASet);
        s.says("UNKNOWN.", () -> unknownPosts("limits", WeatherPass::limits));
        s.of("Promise 19");
        s.says("KINDS, as a set.", ReadingSentences::kindsAsASet);
        s.says("UNKNOWN.", () -> unknownPosts("kinds", WeatherPass::kinds));
        s.of("Promise 20");
        s.says("RAINS, as a set.", ReadingSentences::rainsAsASet);
        s.says("STATE: there is no LAND", () -> stays(Bench::bare, "rains", x -> x.rains(0), STATE, 1));
        s.says("OUTSIDE: day.", ReadingSentences::rainsOfNoDay);
        s.says("STATE: there is no LAND; OUTSIDE: day.", () -> {
            stays(Bench::bare, "day -1", x -> x.rains(-1), STATE, 1);
            stays(Bench::bare, "day 8", x -> x.rains(8), STATE, 1);
        });
        s.of("Promise 21");
        s.says("ODDS (which 0 the upper, 1 the lower number).", ReadingSentences::upperAndLower);
        s.says("LOST: UNKNOWN", ReadingSentences::oddsOfNoField);
        s.says("OUTSIDE: which.", () -> refusedEach("which", beyond(0, 1), (x, which) -> x.odds(3, which), LOST));
    }

    // ---- readings

    private static void eightReadings() {
        WeatherPass x = withLand();
        for (int k = 0; k < 8; k++) {
            due("how many", x.many(3), k);
            due("its number", x.reading(k % 4, k % 5, 10 * k), k);
        }
        due("a ninth", x.reading(0, 0, 0), FULL);
        due("how many", x.many(3), 8);
        due("one is taken back", x.back(1), 7);
        due("one more", x.reading(0, 0, 0), 7);
        due("a ninth", x.reading(0, 0, 0), FULL);
        due("a land has its own eight", x.land(0, INTS, 0, LAND.length()), 3);
        due("the first", x.reading(0, 0, 0), 0);
    }

    private static void wetBehindDays() {
        WeatherPass x = withLand("v2,09,09-p4;950");
        int[][] wets = {{0, 5, 5, 4}, {0, 4, 7, 6}};
        for (int f = 0; f < 2; f++) {
            for (int t = 0; t <= 3; t++) {
                for (int v = 0; v <= 9; v++) {
                    due("reading", x.reading(f, t, v), 0);
                    due("field " + f + " behind " + t + " wet by " + v, x.limits(0) >> 4 & 1, wets[f][t] == v ? 1 : 0);
                    due("back", x.back(1), 0);
                }
            }
        }
        x = withLand("v2,09,09-p4;9");
        writeRow(x, 1, BYTES, 1);
        due("with papers", x.plan(1, BYTES, 0, 1, 11), 9);
        due("a reading", x.reading(1, 1, 9), 0);
        due("is without papers", x.limits(0), 1 << 9);
    }

    private static void inPlaceAlone() {
        WeatherPass x = withLand("v3,09,09,09-p4-p2;9");
        due("a reading", x.reading(1, 1, 5), 0);
        due("limits of 0, the other as it is", x.limits(0), 1 << 7);
        due("kinds of 0, its limit as it is", x.kinds(0), 0);
        due("limits of 1, the other as it is", x.limits(1), 0);
        due("rains, the limits as they are", x.rains(0), 0);
        due("a limit", x.limit(0, 7), 4);
        due("whatever it is", x.limits(0), 1 << 7);
        due("by the other's new one", x.limits(1), 1 << 2);
        due("and the rain", x.rains(0), 0x380);
        int[] stay = {x.ofPost(0, 1), x.ofPost(1, 1), x.ofPost(0, 0), x.ofPost(1, 0), x.rain(0, 9), x.many(3)};
        int[] as = {7, 2, 0, 0, 9, 1};
        for (int k = 0; k < stay.length; k++) {
            due("it stays as it is, " + k, stay[k], as[k]);
        }
    }

    private static void byAllReadings() {
        WeatherPass x = withLand("v2,09,09-p4;99");
        due("without any: all limits", x.limits(0), 1023);
        due("all kinds", x.kinds(0), 7);
        due("all rains", x.rains(1), 1023);
        due("one that is so", x.reading(0, 1, 5), 0);
        for (int k = 1; k < 8; k++) {
            due("limits", x.limits(0), 1 << 4);
            due("one more that is so", x.reading(1, 2, 7), k);
        }
        due("limits", x.limits(0), 1 << 4);
        for (int k = 7; k >= 0; k--) {
            due("back", x.back(8 - k), k);
            due("one that is not so, as number " + k, x.reading(1, 0, 1), k);
            due("no limit", x.limits(0), 0);
            due("no kind", x.kinds(0), 0);
            due("no rain", x.rains(0), 0);
            due("back", x.back(1), k);
            for (int again = k; again < 8; again++) {
                due("as it was", x.reading(0, 1, 5), again);
            }
            due("limits", x.limits(0), 1 << 4);
        }
    }

    private static void eachLimit() {
        for (int limit = 0; limit <= 9; limit++) {
            WeatherPass x = withLand("v2,09,09-p4;9");
            due("reading", x.reading(0, 1, 9 - limit), 0);
            due("just this one", x.limits(0), 1 << limit);
            due("the limit stays", x.ofPost(0, 1), 4);
            x = withLand("v2,09,09-p4;" + limit);
            due("reading", x.reading(0, 1, 0), 0);
            due("this one and all above", x.limits(0), 1023 >> limit << limit);
        }
        WeatherPass x = withLand("v2,09,09-c4;9");
        due("reading", x.reading(0, 1, 9), 0);
        due("a customs of 0 and 1", x.limits(0), 3);
        x = withLand("v2,09,09-f4;9");
        due("reading", x.reading(1, 1, 9), 0);
        due("a free one of 5 and more", x.limits(0), 0x3e0);
    }

    private static void eachKind() {
        int[] wets = {5, 6, 1};
        for (int kind = 0; kind < 3; kind++) {
            for (char now : new char[] {'p', 'c', 'f'}) {
                WeatherPass x = withLand("v2,09,09-" + now + "4;9");
                due("reading", x.reading(0, 1, wets[kind]), 0);
                due("just this one", x.kinds(0), 1 << kind);
                due("the kind stays", x.ofPost(0, 0), "pcf".indexOf(now));
            }
        }
        WeatherPass x = withLand("v2,09,09-c0;9");
        due("reading", x.reading(1, 1, 0), 0);
        due("all three let nothing by", x.kinds(0), 7);
        due("limit", x.limit(0, 9), 0);
        due("none of them does", x.kinds(0), 0);
        x = withLand("v2,09,09-c9;9");
        due("reading", x.reading(1, 1, 9), 0);
        due("a post and a free one", x.kinds(0), 5);
    }

    private static void eachRain() {
        for (int rain = 0; rain <= 9; rain++) {
            WeatherPass x = withLand("v2,09,09-p0;4");
            due("reading", x.reading(0, 1, rain), 0);
            due("just this one", x.rains(0), 1 << rain);
            due("the rain stays", x.rain(0, 4), 4);
            x = withLand("v2,09,09-p" + rain + ";4");
            due("reading", x.reading(0, 1, 0), 0);
            due("this one and all below", x.rains(0), (1 << rain + 1) - 1);
        }
        WeatherPass x = withLand("v2,09,09-p0;22345678");
        due("reading", x.reading(0, 7, 23), 0);
        for (int day = 0; day < 7; day++) {
            due("day " + day, x.rains(day), 1 << Math.max(2, day + 1));
        }
        due("a day behind the reading", x.rains(7), 1023);
    }

    // ---- odds

    private static void odds(WeatherPass x, int f, long upper, long lower) {
        due("upper of field " + f, x.odds(f, 0), upper);
        due("lower of field " + f, x.odds(f, 1), lower);
    }

    private static void oddsOfSets() {
        odds(withLand("v2,04,09-p0;5"), 0, 1, 2);
        odds(withLand("v2,05,09-p0;5"), 0, 0, 1);
        odds(withLand("v2,04,09-p0;50"), 0, 1, 2);
        odds(withLand("v2,04,09-p0;55"), 0, 3, 4);
        odds(withLand("v2,04,09-p0;555"), 0, 7, 8);
        odds(withLand("v2,04,09-p0;42"), 0, 1, 4);
        odds(withLand("v2,04,09-p0;402"), 0, 0, 1);
        odds(withLand("v2,03,09-p0;402"), 0, 1, 2);
        odds(withLand("v2,04,09-p0;4000000"), 0, 0, 1);
        odds(withLand("v2,01,09-p0;11"), 0, 0, 1);
        odds(withLand("v2,09,07-p9;44"), 1, 0, 1);
        odds(withLand("v2,09,06-p9;44"), 1, 1, 4);
        WeatherPass x = withLand("v2,01,00-p1;123");
        odds(x, 0, 1, 2);
        odds(x, 1, 7, 8);
        due("its rain is still there", x.fell(0, 3) + x.fell(1, 3), 6);
    }

    private static void upperAndLower() {
        for (int days = 1; days <= 8; days++) {
            String rain = "9".repeat(days);
            odds(withLand("v2,08,09-p0;" + rain), 0, (1 << days) - 1, 1 << days);
            odds(withLand("v2,08,09-p0;" + "0".repeat(days - 1) + "9"), 0, 1, 2);
            odds(withLand("v2,08,09-p0;9" + "0".repeat(days - 1)), 0, 1, 2);
            odds(withLand("v2,08,09-p9;" + rain), 0, 0, 1);
            odds(withLand("v2,02,09-p8;" + "1".repeat(days)), 0, 0, 1);
        }
        odds(withLand("v2,07,09-p0;11111111"), 0, 0, 1);
        odds(withLand("v2,09,09-p0;99999999"), 0, 247, 256);
        odds(withLand("v2,09,09-p0;22222222"), 0, 0, 1);
        odds(withLand("v2,08,09-p0;22222222"), 0, 1, 256);
        odds(withLand("v2,07,09-p0;22222222"), 0, 3, 256);
        WeatherPass x = withLand("v6,09,09,09,09,09,00-p9-p9-p9-p9-p9;30");
        odds(x, 5, 1, 2);
        odds(x, 4, 0, 1);
    }

    private static void oddsOfNoField() {
        refusedEach("field", beyond(0, 3), (x, f) -> x.odds(f, 0), LOST);
        refused("field and which", x -> x.odds(4, 2), LOST);
        stays(Bench::bare, "without a land", x -> x.odds(0, 0), LOST, 1);
        stays(Bench::bare, "without a land, the lower", x -> x.odds(0, 1), LOST, 1);
        for (int fields = 2; fields <= 6; fields++) {
            WeatherPass x = withLand("v" + fields + ",09".repeat(fields) + "-p0".repeat(fields - 1) + ";1");
            odds(x, fields - 1, 0, 1);
            odds(x, fields, LOST, LOST);
        }
    }

    // ---- promises 16 and 17

    private static void numbers() {
        WeatherPass x = withLand("v6,09,09,09,09,09,09-p0-p0-p0-p0-p0;11111111");
        due("the least of all", x.reading(0, 0, 0), 0);
        due("the greatest of all", x.reading(5, 8, 99), 1);
        due("the same again", x.reading(5, 8, 99), 2);
        due("one that can't be", x.reading(5, 0, 99), 3);
        due("behind two taken back", x.back(2), 2);
        due("numbered on", x.reading(0, 0, 0), 2);
    }

    private static void readingOfNoField() {
        refusedEach("field", beyond(0, 3), (x, f) -> x.reading(f, 0, 0), UNKNOWN);
        stays(Bench::bare, "without a land", x -> x.reading(0, 0, 0), UNKNOWN, 1);
        for (int fields = 2; fields <= 6; fields++) {
            WeatherPass x = withLand(text(fields, 1));
            due("the last field", x.reading(fields - 1, 0, 0), 0);
            due("one more", x.reading(fields, 0, 0), UNKNOWN);
        }
    }

    private static void readingBehindDays() {
        refusedEach("t", beyond(0, 4), (x, t) -> x.reading(0, t, 0), OUTSIDE);
        for (int days = 1; days <= 8; days++) {
            WeatherPass x = withLand(text(2, days));
            due("behind none", x.reading(0, 0, 0), 0);
            due("behind all", x.reading(0, days, 0), 1);
            due("behind one more", x.reading(0, days + 1, 0), OUTSIDE);
            due("behind -1", x.reading(0, -1, 0), OUTSIDE);
            due("two", x.many(3), 2);
        }
    }

    private static void readingOfWet() {
        refusedEach("v", beyond(0, 99), (x, v) -> x.reading(0, 0, v), OUTSIDE);
        WeatherPass x = withLand();
        due("0", x.reading(0, 0, 0), 0);
        due("so it was", x.limits(0), 1023);
        due("99", x.reading(0, 0, 99), 1);
        due("so it was not", x.limits(0), 0);
    }

    private static void lastAreTakenBack() {
        WeatherPass x = withLand("v2,09,09-p4;99");
        due("so it was", x.reading(0, 1, 5), 0);
        due("so it was", x.reading(0, 2, 9), 1);
        due("so it was not", x.reading(0, 1, 4), 2);
        due("none fits", x.limits(0), 0);
        due("the last one", x.back(1), 2);
        due("the first two are left", x.limits(0), 1 << 4);
        due("another one", x.reading(0, 1, 6), 2);
        due("none fits", x.limits(0), 0);
        due("the last two", x.back(2), 1);
        due("the first is left", x.rains(1), 1023);
        due("it is", x.rains(0), 1 << 9);
        due("the last one", x.back(1), 0);
        due("none is left", x.rains(0), 1023);
    }

    private static void howManyAreLeft() {
        for (int k = 0; k <= 8; k++) {
            WeatherPass x = full();
            due("back " + k, x.back(k), 8 - k);
            due("how many", x.many(3), 8 - k);
            due("one more than there are", x.back(9 - k), OUTSIDE);
            due("all that are left", x.back(8 - k), 0);
        }
        due("none without a land", new WeatherPass().back(0), 0);
        due("none of none", withLand().back(0), 0);
        due("0 changes nothing", picture(furnished()).equals(backByNone()) ? 1 : 0, 1);
    }

    private static List<Long> backByNone() {
        WeatherPass x = furnished();
        due("none", x.back(0), 2);
        return picture(x);
    }

    private static void backOutside() {
        refusedEach("k", beyond(0, 2), (x, k) -> x.back(k), OUTSIDE);
        stays(Bench::bare, "one without a land", x -> x.back(1), OUTSIDE, 1);
        stays(Bench::bare, "-1 without a land", x -> x.back(-1), OUTSIDE, 1);
        stays(Bench::full, "nine", x -> x.back(9), OUTSIDE, 1);
    }

    // ---- promises 18 to 20

    private static void limitsAsASet() {
        WeatherPass x = withLand("v6,09,09,09,09,09,09-p9-p9-p9-p9-p3;9");
        for (int p = 0; p < 5; p++) {
            due("without readings", x.limits(p), 1023);
        }
        due("reading", x.reading(5, 1, 3), 0);
        for (int p = 0; p < 4; p++) {
            due("of at least 3", x.limits(p), 0x3f8);
        }
        due("of the last", x.limits(4), 1 << 3);
        due("reading", x.reading(5, 1, 4), 1);
        for (int p = 0; p < 5; p++) {
            due("none", x.limits(p), 0);
            due("it stays", x.ofPost(p, 1), p < 4 ? 9 : 3);
        }
    }

    private static void kindsAsASet() {
        WeatherPass x = withLand("v6,09,09,09,09,09,09-p9-p9-p9-p9-p3;9");
        for (int p = 0; p < 5; p++) {
            due("without readings", x.kinds(p), 7);
        }
        due("reading", x.reading(5, 1, 3), 0);
        for (int p = 0; p < 4; p++) {
            due("each", x.kinds(p), 7);
        }
        due("of the last", x.kinds(4), 1);
        due("reading", x.reading(4, 1, 6), 1);
        for (int p = 0; p < 4; p++) {
            due("no customs", x.kinds(p), 5);
        }
        due("reading", x.reading(4, 1, 5), 2);
        for (int p = 0; p < 5; p++) {
            due("none", x.kinds(p), 0);
            due("it stays", x.ofPost(p, 0), 0);
        }
    }

    private static void rainsAsASet() {
        WeatherPass x = withLand("v2,09,09-p0;11111111");
        for (int day = 0; day < 8; day++) {
            due("without readings", x.rains(day), 1023);
        }
        due("reading", x.reading(0, 8, 1), 0);
        due("the first day: wet by 1, and by 1 more later", x.rains(0), 0x3);
        due("the last day", x.rains(7), 1 << 1);
        due("reading", x.reading(0, 1, 1), 1);
        due("the first day", x.rains(0), 1 << 1);
        due("reading", x.reading(0, 1, 2), 2);
        for (int day = 0; day < 8; day++) {
            due("none", x.rains(day), 0);
            due("it stays", x.rain(day, 1), 1);
        }
    }

    private static void rainsOfNoDay() {
        refusedEach("day", beyond(0, 3), (x, day) -> x.rains(day), OUTSIDE);
        for (int days = 1; days <= 8; days++) {
            WeatherPass x = withLand(text(2, days));
            due("the last day", x.rains(days - 1), 1023);
            due("one more", x.rains(days), OUTSIDE);
        }
    }
}
