/** Papers and closed posts, promises 13 to 15. */
final class PaperSentences extends Bench {
    private PaperSentences() {
    }

    static void tell(Sentences s) {
        s.of("Terms");
        s.says("(POSTS that have PAPERS have them on all DAYS.)", PaperSentences::onAllDays);
        s.says("PAPERS: the fewest POSTS that need them so that no FIELD ever FLOODS, as a set: of several the least",
            PaperSentences::fewestPapers);
        s.says("no FIELD ever FLOODS", PaperSentences::noFieldEver);
        s.says("of several the least; NONE: by none. MOST", PaperSentences::noPapersHelp);
        s.says("MOST: the set of POSTS with PAPERS by which the most FIELDS have ENOUGH", PaperSentences::mostFields);
        s.says("of several the one of the fewest POSTS", PaperSentences::mostByFewest);
        s.says(", then the least.", PaperSentences::mostByLeast);
        s.says("SHUT for a FIELD: the fewest POSTS that are closed", PaperSentences::fewestClosed);
        s.says("(they LET nothing by)", PaperSentences::closedLetNothingBy);
        s.says("so that it never FLOODS", PaperSentences::neverFloods);
        s.says(": of several the least;", PaperSentences::leastClosed);
        s.says("NONE: by none.", PaperSentences::noneClosedHelps);
        s.of("Promise 13");
        s.says("PAPERS, as a set; NONE.", PaperSentences::papersAsASet);
        s.says("STATE: there is no LAND.", () -> stays(Bench::bare, "papers", x -> x.papers(), STATE, 1));
        s.of("Promise 14");
        s.says("MOST, as a set.", PaperSentences::mostAsASet);
        s.says("STATE: there is no LAND.", () -> stays(Bench::bare, "most", x -> x.most(), STATE, 1));
        s.of("Promise 15");
        s.says("SHUT, as a set; NONE.", PaperSentences::shutAsASet);
        s.says("UNKNOWN.", PaperSentences::shutOfNoField);
    }

    // ---- papers

    private static void onAllDays() {
        due("needed on one day, had on all: field 1 floods", withLand("v2,05,05-p0;66").papers(), NONE);
        due("it holds what comes on all days", withLand("v2,05,09-p0;64").papers(), 1);
        due("one more is too much", withLand("v2,05,08-p0;64").papers(), NONE);
        due("most by all days together", withLand("v2,09,99-p0;54").most(), 1);
        due("one less", withLand("v2,09,99-p0;53").most(), 0);
    }

    private static void fewestPapers() {
        due("none is needed", withLand("v6,09,09,09,09,09,09-p0-p0-p0-p0-p0;9").papers(), 0);
        due("one, where two would do", withLand("v3,08,09,09-p0-p9;9").papers(), 1);
        due("the second, where both would do", withLand("v3,09,04,09-p5-p0;9").papers(), 2);
        due("the last of five", withLand("v6,09,09,09,09,08,09-p9-p9-p9-p9-p0;9").papers(), 16);
        due("first and last", withLand("v6,08,09,09,09,08,09-p0-p9-p9-p9-p0;9").papers(), 17);
        due("all five", withLand("v6,00,00,00,00,00,09-p8-c9-f1-p0-c0;9").papers(), 31);
        due("as one has them, the next one needs them", withLand("v3,08,08,09-p0-p0;9").papers(), 3);
    }

    private static void noFieldEver() {
        due("just as much as they hold", withLand("v2,04,05-p5;9").papers(), 0);
        due("the first floods", withLand("v2,03,09-p5;9").papers(), 1);
        due("on the last day", withLand("v2,05,09-p0;00000006").papers(), 1);
        due("on the first day", withLand("v2,05,09-p0;60000000").papers(), 1);
        due("on a day between", withLand("v2,05,09-p0;00060000").papers(), 1);
        due("the last field floods instead", withLand("v2,03,08-p5;9").papers(), NONE);
    }

    private static void noPapersHelp() {
        due("the last field floods without any", withLand("v2,09,08-p9;9").papers(), NONE);
        due("each way one floods", withLand("v2,08,08-p0;9").papers(), NONE);
        due("of six", withLand("v6,08,08,08,08,08,08-p0-p0-p0-p0-p0;9").papers(), NONE);
        due("the last one holds it", withLand("v6,08,08,08,08,08,09-p0-p0-p0-p0-p0;9").papers(), 31);
    }

    // ---- most

    private static void mostFields() {
        due("one more by the last post", withLand("v3,09,09,99-p9-p0;9").most(), 2);
        due("one by both, none by one", withLand("v3,99,99,99-p3-p1;9").most(), 3);
        due("three rather than two", withLand("v3,19,19,19-p8-p1;9").most(), 0);
        due("three by one, two by both", withLand("v3,09,39,39-p0-p3;6").most(), 1);
        due("just enough", withLand("v2,09,99-p4;9").most(), 1);
        due("one less than enough", withLand("v2,99,99-p0;8").most(), 0);
    }

    private static void mostByFewest() {
        due("none, where one is as good", withLand("v2,09,09-p0;9").most(), 0);
        due("none, where each way one has enough", withLand("v2,99,99-p0;9").most(), 0);
        due("one (4), where two (3) are as good", withLand("v4,09,09,69,59-p5-p5-p0;9").most(), 4);
        due("one (16), where two (5) are as good", withLand("v6,09,09,09,09,69,59-p5-p9-p5-p9-p0;9").most(), 16);
        due("two, where three are as good", withLand("v4,09,09,99,09-p0-p0-p0;9").most(), 3);
    }

    private static void mostByLeast() {
        due("2 of 2 and 4", withLand("v4,09,09,49,39-p4-p3-p0;9").most(), 2);
        due("1 of 1 and 2", withLand("v3,09,79,19-p1-p0;9").most(), 1);
    }

    // ---- shut

    private static void fewestClosed() {
        due("none is needed", withLand("v2,09,09-p9;9").shut(1), 0);
        due("one, where more would do", withLand("v6,09,09,09,09,09,08-p9-p9-p9-p9-p9;9").shut(5), 1);
        due("field 0 needs none", withLand("v3,09,00,00-p0-p9;9").shut(0), 0);
    }

    private static void closedLetNothingBy() {
        for (char kind : new char[] {'p', 'c', 'f'}) {
            WeatherPass x = withLand("v2,09,00-" + kind + "9;99999999");
            due("not a drop of " + kind, x.shut(1), 1);
            due("it floods as it is", x.flood(1), 1);
        }
        due("behind a closed one nothing comes to the next", withLand("v3,09,09,00-f9-f9;9").shut(2), 1);
    }

    private static void neverFloods() {
        due("just as much as it holds", withLand("v2,09,05-p5;9").shut(1), 0);
        due("one more", withLand("v2,09,04-p5;9").shut(1), 1);
        due("on the last day", withLand("v2,09,04-p9;00000005").shut(1), 1);
        due("on the first day", withLand("v2,09,04-p9;50000000").shut(1), 1);
        due("as days come together", withLand("v2,09,04-p9;33").shut(1), 1);
        due("another one floods", withLand("v3,00,09,00-p4-p0;9").shut(1), 0);
        due("another one floods as it is closed", withLand("v2,05,03-p4;9").shut(1), 1);
    }

    private static void leastClosed() {
        for (int fields = 3; fields <= 6; fields++) {
            String text = "v" + fields + ",09".repeat(fields - 1) + ",00" + "-p9".repeat(fields - 1) + ";9";
            due("the first of " + (fields - 1), withLand(text).shut(fields - 1), 1);
        }
        due("of those ahead of it", withLand("v4,09,09,00,00-p9-p9-p9;9").shut(2), 0);
        due("the first of two", withLand("v4,09,09,00,00-p9-p9-p8;9").shut(2), 1);
    }

    private static void noneClosedHelps() {
        due("the first field", withLand("v2,08,09-p0;9").shut(0), NONE);
        due("nor what its post lets by", withLand("v2,00,09-p8;9").shut(0), NONE);
        due("it holds it", withLand("v2,09,09-p0;9").shut(0), 0);
        due("all by and none left", withLand("v2,00,09-p9;9").shut(0), 0);
        due("of six", withLand("v6,08,09,09,09,09,09-p0-p9-p9-p9-p9;9").shut(0), NONE);
    }

    // ---- promises 13 to 15

    private static void papersAsASet() {
        String[] holds = {",08,09,09,09,09,09", ",09,08,09,09,09,09", ",09,09,08,09,09,09", ",09,09,09,08,09,09",
            ",09,09,09,09,08,09"};
        for (int p = 0; p < 5; p++) {
            String posts = "-p9".repeat(p) + "-p0" + "-p9".repeat(4 - p);
            WeatherPass x = withLand("v6" + holds[p] + posts + ";9");
            due("post " + p, x.papers(), 1 << p);
            due("none has them behind the call", x.fell(p, 1), 9);
            due("asked again", x.papers(), 1 << p);
        }
        WeatherPass x = withLand("v2,08,09-p0;9");
        x.limit(0, 1);
        due("by a limit that it got", x.papers(), 0);
        x.limit(0, 0);
        x.rain(0, 8);
        due("by a rain that it got", x.papers(), 0);
        due("readings are nothing to it", x.reading(0, 0, 99), 0);
        due("still", x.papers(), 0);
    }

    private static void mostAsASet() {
        for (int p = 0; p < 5; p++) {
            String fields = ",09".repeat(p + 1) + ",99" + ",09".repeat(4 - p);
            String posts = "-p9".repeat(p) + "-p0" + "-p9".repeat(4 - p);
            WeatherPass x = withLand("v6" + fields + posts + ";9");
            // What post p lets by goes on to the last field, but for a limit of 0 there.
            if (p < 4) {
                x.limit(p + 1, 0);
            }
            due("post " + p, x.most(), 1 << p);
            due("none has them behind the call", x.fell(p, 1), 9);
            due("asked again", x.most(), 1 << p);
        }
        due("all five", withLand("v6,09,09,09,09,09,99-p0-p0-p0-p0-p0;9").most(), 31);
    }

    private static void shutAsASet() {
        WeatherPass x = withLand("v3,02,02,02-p4-p2;6");
        due("field 0", x.shut(0), 0);
        due("field 1", x.shut(1), 0);
        due("field 2", x.shut(2), 0);
        due("rain", x.rain(0, 9), 6);
        due("field 0", x.shut(0), NONE);
        due("field 1", x.shut(1), 0);
        due("limit", x.limit(1, 4), 2);
        due("field 2", x.shut(2), 1);
        due("it is open behind the call", x.fell(2, 1), 4);
        due("asked again", x.shut(2), 1);
    }

    private static void shutOfNoField() {
        refusedEach("field", beyond(0, 3), (x, f) -> x.shut(f), UNKNOWN);
        stays(Bench::bare, "without a land", x -> x.shut(0), UNKNOWN, 1);
        for (int fields = 2; fields <= 6; fields++) {
            WeatherPass x = withLand(text(fields, 1));
            due("the last field", x.shut(fields - 1) == UNKNOWN ? 1 : 0, 0);
            due("one more", x.shut(fields), UNKNOWN);
        }
    }
}
