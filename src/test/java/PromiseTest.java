/** Promise by promise: ordinary inputs, the edges that the document names, and wrong inputs. */
public final class PromiseTest extends Bench {
    private static final int[] WILD = {Integer.MIN_VALUE, -1, Integer.MAX_VALUE};

    public static void main(String[] args) {
        Runnable[] promises = {
            PromiseTest::aNewObject, PromiseTest::land, PromiseTest::ofField, PromiseTest::ofPost,
            PromiseTest::lets, PromiseTest::limit, PromiseTest::rain, PromiseTest::wet, PromiseTest::fell,
            PromiseTest::flood, PromiseTest::enough, PromiseTest::plan, PromiseTest::papers,
            PromiseTest::most, PromiseTest::shut, PromiseTest::reading, PromiseTest::back,
            PromiseTest::limits, PromiseTest::kinds, PromiseTest::rains, PromiseTest::odds,
            PromiseTest::sheet, PromiseTest::lose, PromiseTest::put, PromiseTest::cell, PromiseTest::copy,
            PromiseTest::tell, PromiseTest::stamp, PromiseTest::as, PromiseTest::trace, PromiseTest::fault,
            PromiseTest::many};
        for (int k = 0; k < promises.length; k++) {
            at("promise " + (k + 1));
            promises[k].run();
        }
        due("how many promises", promises.length, 32);
        end(promises.length + " promises");
    }

    private static void aNewObject() {
        WeatherPass x = new WeatherPass();
        for (int what = 0; what < 4; what++) {
            due("many", x.many(what), 0);
        }
        for (int k = 0; k < 4; k++) {
            due("put", x.put(k, 0, 0), NULL);
            due("lose", x.lose(k), 0);
        }
        due("flood", x.flood(0), WeatherPass.STATE);
        due("enough", x.enough(), WeatherPass.STATE);
        due("ofField", x.ofField(0, 0), WeatherPass.UNKNOWN);
        due("ofPost", x.ofPost(0, 0), WeatherPass.UNKNOWN);
        due("wet", x.wet(0, 0), WeatherPass.UNKNOWN);
        due("trace", x.trace(), 0);
        due("fault", new WeatherPass().fault(), 0);
        due("another object", withLand().many(1), 4);
        due("is not this one", x.many(1), 0);
    }

    private static void land() {
        for (int lane = 0; lane < 3; lane++) {
            WeatherPass x = new WeatherPass();
            write(x, 3, lane, "xx" + LAND + "9");
            due("land", x.land(3, lane, 2, LAND.length()), 3);
            due("fields", x.many(1), 4);
            due("days", x.many(2), 4);
            due("another lane", x.land(3, (lane + 1) % 3, 2, LAND.length()), CAST);
        }
        landOfOtherSizes();
        landFirstFaults();
        landRefusals();
        landMakesAllAnew();
    }

    private static void landOfOtherSizes() {
        WeatherPass x = withLand("v6,12,34,56,78,90,12-p1-c2-f3-c4-p5;12345678");
        due("fields", x.many(1), 6);
        due("days", x.many(2), 8);
        due("last field's needs", x.ofField(5, 0), 1);
        due("last field's holds", x.ofField(5, 1), 2);
        due("last post's limit", x.ofPost(4, 1), 5);
        due("last post's kind", x.ofPost(4, 0), 0);
        due("last rain", x.rain(7, 0), 8);
        x = withLand("v2,00,99-f0;0");
        due("fields", x.many(1), 2);
        due("days", x.many(2), 1);
        for (int fields = 2; fields <= 6; fields++) {
            String text = "v" + fields + ",55".repeat(fields) + "-c7".repeat(fields - 1) + ";34";
            due("posts", withLand(text).many(0), fields - 1);
        }
    }

    private static void landFirstFaults() {
        String[] texts = {"", "w", "V2", "v", "v1", "v7", "v2", "v2;", "v2,", "v2,/", "v2,:", "v2,1", "v2,1,",
            "v2,12-", "v2,12,34,", "v2,12,34", "v2,12,34;", "v2,12,34-", "v2,12,34-q", "v2,12,34-p", "v2,12,34-px",
            "v2,12,34-p1", "v2,12,34-p1-", "v2,12,34-p1;", "v2,12,34-p1;,", "v2,12,34-p1;123456789",
            "v2,12,34-p1;1234567x", "v2,12,34-p1;1x", "v3,12,34-", "v3,12,34,56-c1;", "x2,12,34-p1;1",
            "v2,12,34-P1;1", "v2,12,34-p1;1 ", "v6,12,34,56,78,90,12-p1-c2-f3-c4-p5;123456789"};
        int[] faults = {0, 0, 0, 1, 1, 1, 2, 2, 3, 3, 3, 4, 4,
            5, 8, 8, 8, 9, 9, 10, 10,
            11, 11, 12, 12, 20,
            19, 13, 8, 14, 0,
            9, 13, 44};
        WeatherPass x = withLand();
        for (int k = 0; k < texts.length; k++) {
            if (k % 8 == 7) {
                x = withLand();
            }
            due("land of '" + texts[k] + "'", landOf(x, texts[k]), -100 - faults[k]);
            due("fault", x.fault(), 0);
            due("the land stays", x.many(1) * 10 + x.many(2), 44);
        }
        String text = "v3,12,34,56-c1-f2;12345678";
        for (int n = 0; n < text.length() - 7; n++) {
            due("too short by " + n, landOf(new WeatherPass(), text.substring(0, n)), -100 - n);
        }
        x = new WeatherPass();
        writeRow(x, 0, INTS, 'v', '2' + 256);
        due("a code that is none", x.land(0, INTS, 0, 2), -101);
        writeRow(x, 0, BYTES, 'v' + 256, '2' + 512);
        due("codes cut to bytes", x.land(0, BYTES, 0, 2), -102);
    }

    private static void landRefusals() {
        WeatherPass x = new WeatherPass();
        due("nothing", x.land(0, 0, 0, 0), NULL);
        due("nothing, SIZE later", x.land(0, 0, -1, -1), NULL);
        x.sheet(0, SHORTS, 13);
        for (int wild : WILD) {
            due("sheet", x.land(wild, 9, 0, 0), WeatherPass.UNKNOWN);
            due("lane", x.land(0, wild, -1, -1), WeatherPass.OUTSIDE);
            due("i", x.land(0, SHORTS, wild, 1), INDEX);
            due("i, none taken", x.land(0, SHORTS, wild, 0), INDEX);
        }
        due("sheet 4", x.land(4, 0, 0, 0), WeatherPass.UNKNOWN);
        due("lane 3", x.land(0, 3, 0, 0), WeatherPass.OUTSIDE);
        due("CAST ahead of SIZE", x.land(0, INTS, 0, -1), CAST);
        due("SIZE ahead of INDEX", x.land(0, SHORTS, -1, -1), SIZE);
        due("SIZE", x.land(0, SHORTS, 0, Integer.MIN_VALUE), SIZE);
        due("all and one more", x.land(0, SHORTS, 0, 14), INDEX);
        due("wraps", x.land(0, SHORTS, 1, Integer.MAX_VALUE), INDEX);
        due("too many from 1 on", x.land(0, SHORTS, 1, 13), INDEX);
        due("none at the end", x.land(0, SHORTS, 13, 0), -100);
        due("none beyond the end", x.land(0, SHORTS, 14, 0), INDEX);
        due("zeros are no text", x.land(0, SHORTS, 0, 13), -100);
        x.lose(0);
        due("lost", x.land(0, SHORTS, 0, 13), NULL);
    }

    private static void landMakesAllAnew() {
        WeatherPass x = withLand();
        x.limit(0, 8);
        x.rain(0, 8);
        x.reading(0, 1, 0);
        x.tell(0);
        due("a text with a fault", landOf(x, "v"), -101);
        due("readings stay", x.many(3), 1);
        due("limit stays", x.ofPost(0, 1), 8);
        due("the same land", landOf(x, LAND), 3);
        due("no readings", x.many(3), 0);
        due("limit anew", x.ofPost(0, 1), 3);
        due("rain anew", x.rain(0, 8), 5);
        due("sheets stay", x.cell(0, 0, INTS), 'v');
        due("trace stays", x.trace(), 1);
        due("a smaller land", landOf(x, "v2,11,22-f3;4"), 1);
        due("its fields", x.many(1), 2);
        due("its days", x.many(2), 1);
        due("no such field", x.wet(2, 0), WeatherPass.UNKNOWN);
        due("no such post", x.lets(1, 0), WeatherPass.UNKNOWN);
        due("no such day", x.rain(1, 0), WeatherPass.OUTSIDE);
    }

    private static void ofField() {
        WeatherPass x = withLand();
        int[] needs = {3, 6, 2, 9};
        int[] holds = {5, 4, 8, 5};
        for (int f = 0; f < 4; f++) {
            due("needs", x.ofField(f, 0), needs[f]);
            due("holds", x.ofField(f, 1), holds[f]);
            due("what 2", x.ofField(f, 2), WeatherPass.OUTSIDE);
            due("what -1", x.ofField(f, -1), WeatherPass.OUTSIDE);
        }
        due("field 4", x.ofField(4, 0), WeatherPass.UNKNOWN);
        for (int wild : WILD) {
            due("field", x.ofField(wild, wild), WeatherPass.UNKNOWN);
            due("what", x.ofField(0, wild), WeatherPass.OUTSIDE);
        }
    }

    private static void ofPost() {
        WeatherPass x = withLand();
        int[] limits = {3, 4, 2};
        for (int p = 0; p < 3; p++) {
            due("kind", x.ofPost(p, 0), p);
            due("limit", x.ofPost(p, 1), limits[p]);
            due("what 2", x.ofPost(p, 2), WeatherPass.OUTSIDE);
            due("what -1", x.ofPost(p, -1), WeatherPass.OUTSIDE);
        }
        due("post 3", x.ofPost(3, 0), WeatherPass.UNKNOWN);
        for (int wild : WILD) {
            due("post", x.ofPost(wild, wild), WeatherPass.UNKNOWN);
            due("what", x.ofPost(0, wild), WeatherPass.OUTSIDE);
        }
    }

    private static void lets() {
        WeatherPass x = withLand();
        int[] much = {0, 1, 2, 3, 4, 5, 99};
        int[][] by = {{0, 1, 2, 3, 3, 3, 3}, {0, 0, 1, 2, 3, 3, 3}, {0, 1, 2, 3, 4, 4, 4}};
        for (int p = 0; p < 3; p++) {
            for (int k = 0; k < much.length; k++) {
                due("lets(" + p + ", " + much[k] + ")", x.lets(p, much[k]), by[p][k]);
            }
        }
        x.limit(1, 0);
        due("customs of no limit", x.lets(1, 9), 0);
        x.limit(2, 0);
        due("free one of no limit", x.lets(2, 9), 0);
        x.limit(2, 9);
        due("free one of most", x.lets(2, 99), 18);
        due("post 3", x.lets(3, 100), WeatherPass.UNKNOWN);
        due("much 100", x.lets(0, 100), WeatherPass.OUTSIDE);
        due("much -1", x.lets(0, -1), WeatherPass.OUTSIDE);
        for (int wild : WILD) {
            due("post", x.lets(wild, 1), WeatherPass.UNKNOWN);
            due("much", x.lets(0, wild), WeatherPass.OUTSIDE);
        }
    }

    private static void limit() {
        WeatherPass x = withLand();
        due("limit", x.limit(0, 9), 3);
        due("was", x.limit(0, 0), 9);
        due("is", x.ofPost(0, 1), 0);
        due("others stay", x.ofPost(1, 1), 4);
        due("lets", x.lets(0, 9), 0);
        due("wet", x.wet(0, 1), 5);
        due("v 10", x.limit(0, 10), WeatherPass.OUTSIDE);
        due("v -1", x.limit(0, -1), WeatherPass.OUTSIDE);
        due("post 3", x.limit(3, 10), WeatherPass.UNKNOWN);
        for (int wild : WILD) {
            due("post", x.limit(wild, 1), WeatherPass.UNKNOWN);
            due("v", x.limit(2, wild), WeatherPass.OUTSIDE);
        }
        due("refusals change nothing", x.ofPost(0, 1) * 100 + x.ofPost(1, 1) * 10 + x.ofPost(2, 1), 42);
    }

    private static void rain() {
        WeatherPass x = withLand();
        due("rain", x.rain(0, 9), 5);
        due("was", x.rain(0, 0), 9);
        due("is", x.rain(0, 0), 0);
        due("last day", x.rain(3, 1), 7);
        due("day 4", x.rain(4, 0), WeatherPass.OUTSIDE);
        due("v 10", x.rain(0, 10), WeatherPass.OUTSIDE);
        due("v -1", x.rain(0, -1), WeatherPass.OUTSIDE);
        for (int wild : WILD) {
            due("day", x.rain(wild, 1), WeatherPass.OUTSIDE);
            due("v", x.rain(1, wild), WeatherPass.OUTSIDE);
            due("no land", new WeatherPass().rain(wild, wild), WeatherPass.STATE);
        }
        due("refusals change nothing", x.rain(1, 9), 9);
        due("no land", new WeatherPass().rain(0, 0), WeatherPass.STATE);
    }

    private static void wet() {
        WeatherPass x = withLand();
        int[][] wets = {{0, 2, 7, 6, 9}, {0, 1, 1, 0, 1}, {0, 0, 0, 0, 0}, {0, 2, 3, 2, 3}};
        for (int f = 0; f < 4; f++) {
            for (int t = 0; t < 5; t++) {
                due("wet(" + f + ", " + t + ")", x.wet(f, t), wets[f][t]);
            }
        }
        due("changes nothing", x.wet(0, 1), 2);
        refusalsByFieldAndDay(x::wet);
    }

    private interface ByFieldAndDay {
        int of(int f, int t);
    }

    private static void refusalsByFieldAndDay(ByFieldAndDay call) {
        due("field 4", call.of(4, 9), WeatherPass.UNKNOWN);
        due("t 5", call.of(0, 5), WeatherPass.OUTSIDE);
        due("t -1", call.of(3, -1), WeatherPass.OUTSIDE);
        for (int wild : WILD) {
            due("field", call.of(wild, 0), WeatherPass.UNKNOWN);
            due("t", call.of(0, wild), WeatherPass.OUTSIDE);
        }
    }

    private static void fell() {
        WeatherPass x = withLand();
        int[][] falls = {{0, 2, 8, 8, 12}, {0, 1, 2, 2, 3}, {0, 0, 0, 0, 0}, {0, 2, 4, 4, 6}};
        for (int f = 0; f < 4; f++) {
            for (int t = 0; t < 5; t++) {
                due("fell(" + f + ", " + t + ")", x.fell(f, t), falls[f][t]);
            }
        }
        due("changes nothing", x.fell(0, 1), 2);
        refusalsByFieldAndDay(x::fell);
    }

    private static void flood() {
        WeatherPass x = withLand();
        due("day", x.flood(0), 1);
        due("field", x.flood(1), 0);
        x = withLand("v3,00,02,02-p0-p0;3");
        due("day 0", x.flood(0), 0);
        x = withLand("v3,09,02,01-p9-f4;33");
        due("the later field: 3 are wet by more than 1", x.flood(1), 2);
        x = withLand("v3,09,02,02-p9-p3;26");
        due("as much as it holds, and more by 1 the day after: day", x.flood(0), 1);
        due("the least of two fields on a day", x.flood(1), 1);
        x = withLand("v2,03,09-p0;3003");
        due("just as much as it holds", x.flood(0), WeatherPass.NONE);
        due("no field", x.flood(1), WeatherPass.NONE);
        due("what 2", x.flood(2), WeatherPass.OUTSIDE);
        due("what -1", x.flood(-1), WeatherPass.OUTSIDE);
        due("no land", new WeatherPass().flood(1), WeatherPass.STATE);
        for (int wild : WILD) {
            due("what", x.flood(wild), WeatherPass.OUTSIDE);
            due("what ahead of no land", new WeatherPass().flood(wild), WeatherPass.OUTSIDE);
        }
    }

    private static void enough() {
        WeatherPass x = withLand();
        due("enough", x.enough(), 1);
        due("just as much", withLand("v2,39,39-p3;6").enough(), 3);
        due("one too little", withLand("v2,49,39-p3;6").enough(), 2);
        due("none needed", withLand("v6,09,09,09,09,09,09-p0-p0-p0-p0-p0;0").enough(), 63);
        due("over days, too little", withLand("v2,19,99-p3;332").enough(), 0);
        due("over days", withLand("v2,19,79-p3;342").enough(), 3);
        due("no land", new WeatherPass().enough(), WeatherPass.STATE);
    }

    private static void plan() {
        WeatherPass x = withLand();
        int[][] plans = {{0, 0, 0, 0}, {7, 7, 7, 7}, {1, 2, 4, 0}, {5, 0, 7, 2}};
        int[] whats = {0, 1, 2, 3, 10, 11, 12, 13, 14, 15, 20, 21, 22, 23, 24, 25};
        int[][] answers = {
            {3, 1, 0, 1, 9, 1, 0, 3, -9, -9, 12, 3, 0, 6, -9, -9},
            {3, 1, 3, 8, 0, 0, 0, 18, -9, -9, 0, 0, 0, 21, -9, -9},
            {2, 1, 0, 1, 8, 1, 0, 5, -9, -9, 10, 3, 0, 8, -9, -9},
            {2, 1, 0, 1, 8, 0, 0, 5, -9, -9, 10, 3, 0, 8, -9, -9}};
        for (int k = 0; k < plans.length; k++) {
            writeRow(x, 1, SHORTS, plans[k]);
            for (int w = 0; w < whats.length; w++) {
                due("plan " + k + " of " + whats[w], x.plan(1, SHORTS, 0, 4, whats[w]), answers[k][w]);
            }
        }
        writeRow(x, 1, BYTES, 8, -1, 7, 7, 7, 7);
        due("from 2 on", x.plan(1, BYTES, 2, 4, 23), 21);
        due("a set of a post that there is not", x.plan(1, BYTES, 1, 4, 0), WeatherPass.OUTSIDE);
        writeRow(x, 1, BYTES, 8, 0, 0, 0, 8);
        due("post 3 on the first day", x.plan(1, BYTES, 0, 4, 0), WeatherPass.OUTSIDE);
        due("post 3 on the last day, of no such field", x.plan(1, BYTES, 1, 4, 15), WeatherPass.OUTSIDE);
        due("papers are of the plan alone", x.wet(3, 4), 3);
        planWithoutFlood();
        planRefusals();
    }

    private static void planWithoutFlood() {
        WeatherPass x = withLand("v6,19,19,19,19,19,19-p0-p0-p0-p0-p0;5");
        writeRow(x, 1, INTS, 31);
        due("never", x.plan(1, INTS, 0, 1, 0), 0);
        due("no day", x.plan(1, INTS, 0, 1, 1), WeatherPass.NONE);
        due("no field", x.plan(1, INTS, 0, 1, 2), WeatherPass.NONE);
        due("enough", x.plan(1, INTS, 0, 1, 3), 32);
        due("field 5 wet", x.plan(1, INTS, 0, 1, 15), 5);
        due("on field 5", x.plan(1, INTS, 0, 1, 25), 5);
    }

    private static void planRefusals() {
        WeatherPass x = new WeatherPass();
        due("nothing", x.plan(0, 0, 0, 0, 0), NULL);
        x.sheet(0, INTS, 4);
        due("no land", x.plan(0, INTS, 0, 9, 0), INDEX);
        due("no land", x.plan(0, INTS, 0, 4, 0), WeatherPass.STATE);
        due("no land, no cells", x.plan(0, INTS, 0, 0, 15), WeatherPass.STATE);
        x = withLand();
        x.sheet(1, INTS, 9);
        for (int what : new int[] {-1, 4, 9, 16, 19, 26, Integer.MIN_VALUE, Integer.MAX_VALUE}) {
            due("what", x.plan(1, INTS, 0, 4, what), WeatherPass.OUTSIDE);
            due("what, ahead of NULL", x.plan(2, INTS, 0, 4, what), WeatherPass.OUTSIDE);
        }
        for (int wild : WILD) {
            due("sheet", x.plan(wild, 3, 0, 4, 99), WeatherPass.UNKNOWN);
            due("lane", x.plan(2, wild, 0, 4, 0), WeatherPass.OUTSIDE);
            due("i", x.plan(1, INTS, wild, 4, 0), INDEX);
        }
        due("CAST", x.plan(1, BYTES, -1, -1, 0), CAST);
        due("NULL", x.plan(2, BYTES, -1, -1, 0), NULL);
        due("SIZE", x.plan(1, INTS, -1, -1, 0), SIZE);
        due("INDEX", x.plan(1, INTS, 6, 4, 0), INDEX);
        due("wraps", x.plan(1, INTS, 6, Integer.MAX_VALUE, 0), INDEX);
        due("the last ones", x.plan(1, INTS, 5, 4, 0), 3);
        due("too few", x.plan(1, INTS, 0, 3, 0), WeatherPass.OUTSIDE);
        due("too many", x.plan(1, INTS, 0, 5, 0), WeatherPass.OUTSIDE);
        due("none", x.plan(1, INTS, 0, 0, 0), WeatherPass.OUTSIDE);
        due("that was no fault", x.fault(), 0);
    }

    private static void papers() {
        due("none helps", withLand().papers(), WeatherPass.NONE);
        due("none is needed", withLand("v3,09,09,09-p0-p0;9").papers(), 0);
        due("the first, and so the next too", withLand("v3,00,03,09-p3-p0;6").papers(), 3);
        due("both", withLand("v3,02,02,09-p2-p2;7").papers(), 3);
        due("all of them", withLand("v6,00,00,00,00,00,09-p9-p0-p0-p0-c9;9").papers(), 30);
        due("the second alone", withLand("v3,03,02,09-p3-p0;6").papers(), 2);
        due("the last alone", withLand("v4,05,05,01,09-p5-p5-p0;9").papers(), 4);
        due("never on any day", withLand("v2,03,09-p2;5511").papers(), 1);
        due("no land", new WeatherPass().papers(), WeatherPass.STATE);
        WeatherPass x = withLand("v2,00,09-p0;1");
        due("papers", x.papers(), 1);
        due("none has them behind the call", x.fell(0, 1), 1);
    }

    private static void most() {
        due("most", withLand().most(), 1);
        due("no set is better than none", withLand("v2,99,99-p0;1").most(), 0);
        due("the fewest, not the least", withLand("v4,09,09,69,59-p5-p5-p0;9").most(), 4);
        due("the least of two", withLand("v4,09,09,49,39-p4-p3-p0;9").most(), 2);
        due("the last post", withLand("v3,09,09,49-p9-p0;4").most(), 2);
        due("both", withLand("v3,09,09,49-p0-p0;4").most(), 3);
        due("more fields rather than fewer posts", withLand("v3,19,19,19-p1-p0;3").most(), 0);
        due("two posts rather than none", withLand("v3,99,09,59-p0-p0;5").most(), 3);
        due("no land", new WeatherPass().most(), WeatherPass.STATE);
        WeatherPass x = withLand("v2,09,19-p0;1");
        due("most", x.most(), 1);
        due("none has them behind the call", x.fell(0, 1), 1);
    }

    private static void shut() {
        WeatherPass x = withLand();
        int[] shuts = {WeatherPass.NONE, 0, 0, 0};
        for (int f = 0; f < 4; f++) {
            due("shut " + f, x.shut(f), shuts[f]);
        }
        x = withLand("v4,09,09,09,02-p9-p9-p9;9");
        due("the least of three", x.shut(3), 1);
        due("none is needed", x.shut(2), 0);
        x = withLand("v4,09,03,09,02-p9-p3-p9;9");
        due("the first keeps it from field 1", x.shut(1), 1);
        x = withLand("v3,02,09,09-p0-p0;9");
        due("field 0 can't be kept dry", x.shut(0), WeatherPass.NONE);
        due("another field floods, not this", x.shut(1), 0);
        x = withLand("v3,09,00,09-c0-f9;9");
        due("nothing comes", x.shut(1), 0);
        due("field 3", x.shut(3), WeatherPass.UNKNOWN);
        due("it is open behind the call", withLand("v2,09,00-p4;9").shut(1), 1);
        for (int wild : WILD) {
            due("field", x.shut(wild), WeatherPass.UNKNOWN);
        }
        due("no land", new WeatherPass().shut(0), WeatherPass.UNKNOWN);
    }

    private static void reading() {
        WeatherPass x = withLand();
        due("field 4", x.reading(4, 9, 100), WeatherPass.UNKNOWN);
        due("t 5", x.reading(0, 5, 0), WeatherPass.OUTSIDE);
        due("t -1", x.reading(0, -1, 0), WeatherPass.OUTSIDE);
        due("v 100", x.reading(0, 0, 100), WeatherPass.OUTSIDE);
        due("v -1", x.reading(0, 0, -1), WeatherPass.OUTSIDE);
        for (int wild : WILD) {
            due("field", x.reading(wild, 0, 0), WeatherPass.UNKNOWN);
            due("t", x.reading(0, wild, 0), WeatherPass.OUTSIDE);
            due("v", x.reading(0, 0, wild), WeatherPass.OUTSIDE);
        }
        due("refusals change nothing", x.many(3), 0);
        for (int k = 0; k < 8; k++) {
            due("number", x.reading(k % 4, k % 5, 99 * (k % 2)), k);
        }
        due("full", x.reading(0, 0, 0), WeatherPass.FULL);
        due("OUTSIDE ahead of FULL", x.reading(0, 5, 0), WeatherPass.OUTSIDE);
        due("UNKNOWN ahead of FULL", x.reading(4, 0, 0), WeatherPass.UNKNOWN);
        due("eight", x.many(3), 8);
        due("no land", new WeatherPass().reading(0, 0, 0), WeatherPass.UNKNOWN);
    }

    private static void back() {
        WeatherPass x = withLand();
        due("none of none", x.back(0), 0);
        due("one of none", x.back(1), WeatherPass.OUTSIDE);
        x.reading(0, 1, 2);
        x.reading(0, 1, 3);
        x.reading(0, 1, 4);
        due("more than there are", x.back(4), WeatherPass.OUTSIDE);
        due("none", x.back(0), 3);
        due("no fewer", x.back(-1), WeatherPass.OUTSIDE);
        for (int wild : WILD) {
            due("k", x.back(wild), WeatherPass.OUTSIDE);
        }
        due("they contradict", x.limits(0), 0);
        due("the last two", x.back(2), 1);
        due("the first one is left", x.limits(0), 8);
        due("numbered on", x.reading(0, 1, 2), 1);
        due("all", x.back(2), 0);
        due("no land", new WeatherPass().back(0), 0);
        due("no land", new WeatherPass().back(1), WeatherPass.OUTSIDE);
    }

    private static void limits() {
        WeatherPass x = withLand();
        due("without readings", x.limits(0), 1023);
        x.reading(0, 1, 2);
        due("of a post", x.limits(0), 1 << 3);
        due("of one that is not at fault", x.limits(2), 1023);
        due("limit stays", x.ofPost(0, 1), 3);
        x.limit(0, 7);
        due("whatever it is now", x.limits(0), 1 << 3);
        due("by others it is not so", x.limits(1), 0);
        x.back(1);
        x.reading(0, 1, 0);
        due("all that lets all by", x.limits(0), 0x3e0);
        x = withLand();
        x.reading(1, 1, 2);
        due("of customs", x.limits(1), 1 << 2);
        x.back(1);
        x.reading(2, 2, 0);
        due("of a free one", x.limits(2), 0x3fe);
        x.reading(2, 0, 1);
        due("never wet at first", x.limits(2), 0);
        due("post 3", x.limits(3), WeatherPass.UNKNOWN);
        x = withLand("v6,99,99,99,99,99,99-p9-p9-p9-p9-f4;99999999");
        due("behind the eighth day", x.reading(4, 8, 1), 0);
        due("of the last post", x.limits(4), 1 << 4);
        due("of the first post", x.limits(0), 1 << 9);
        for (int wild : WILD) {
            due("post", x.limits(wild), WeatherPass.UNKNOWN);
        }
        due("no land", new WeatherPass().limits(0), WeatherPass.UNKNOWN);
    }

    private static void kinds() {
        WeatherPass x = withLand();
        due("without readings", x.kinds(0), 7);
        x.reading(0, 1, 2);
        due("a post", x.kinds(0), 1);
        due("of one that is not at fault", x.kinds(1), 7);
        due("kind stays", x.ofPost(0, 0), 0);
        x.back(1);
        x.reading(0, 1, 3);
        due("customs", x.kinds(0), 2);
        x.back(1);
        x.reading(0, 1, 0);
        due("a free one", x.kinds(0), 4);
        x.back(1);
        x.reading(0, 4, 0);
        due("none", x.kinds(0), 0);
        x = withLand("v2,09,09-c4;3");
        x.reading(0, 1, 0);
        due("a post or a free one", x.kinds(0), 5);
        due("kind stays", x.ofPost(0, 0), 1);
        due("post 1", x.kinds(1), WeatherPass.UNKNOWN);
        for (int wild : WILD) {
            due("post", x.kinds(wild), WeatherPass.UNKNOWN);
        }
        due("no land", new WeatherPass().kinds(0), WeatherPass.UNKNOWN);
    }

    private static void rains() {
        WeatherPass x = withLand();
        due("without readings", x.rains(3), 1023);
        x.reading(0, 1, 2);
        due("of the day", x.rains(0), 1 << 5);
        due("of a later day", x.rains(1), 1023);
        x.back(1);
        x.reading(0, 2, 7);
        due("day 1", x.rains(1), 1 << 9);
        due("day 0", x.rains(0), 1 << 5);
        due("rain stays", x.rain(0, 5), 5);
        x.reading(3, 2, 3);
        x.reading(3, 4, 3);
        due("by all", x.rains(2), 0x3);
        due("the last day", x.rains(3), 0x3f8);
        due("day 4", x.rains(4), WeatherPass.OUTSIDE);
        for (int wild : WILD) {
            due("day", x.rains(wild), WeatherPass.OUTSIDE);
            due("no land", new WeatherPass().rains(wild), WeatherPass.STATE);
        }
    }

    private static void odds(WeatherPass x, int f, long upper, long lower) {
        due("upper of field " + f, x.odds(f, 0), upper);
        due("lower of field " + f, x.odds(f, 1), lower);
    }

    private static void odds() {
        WeatherPass x = withLand();
        odds(x, 0, 1, 2);
        odds(x, 1, 0, 1);
        x.rain(1, 0);
        x.rain(3, 9);
        odds(x, 0, 1, 2);
        due("rain stays", x.rain(3, 9), 9);
        x = withLand("v2,04,09-p0;55555555");
        odds(x, 0, 255, 256);
        odds(x, 1, 0, 1);
        x = withLand("v2,04,09-p0;333");
        odds(x, 0, 3, 8);
        x = withLand("v2,05,05-p3;9");
        odds(x, 0, 1, 2);
        odds(x, 1, 0, 1);
        x = withLand("v2,04,09-p0;505");
        odds(x, 0, 3, 4);
        for (int wild : WILD) {
            due("field", x.odds(wild, 0), WeatherPass.LOST);
            due("which", x.odds(0, wild), WeatherPass.LOST);
        }
        due("field 2", x.odds(2, 0), Long.MIN_VALUE);
        due("which 2", x.odds(0, 2), Long.MIN_VALUE);
        due("no land", new WeatherPass().odds(0, 0), Long.MIN_VALUE);
    }

    private static void sheet() {
        WeatherPass x = new WeatherPass();
        for (int k = 0; k < 4; k++) {
            due("sheet", x.sheet(k, k % 3, 60), 1);
            due("put", x.put(k, 59, 7), 1);
            due("no further", x.put(k, 60, 7), INDEX);
            due("shorter", x.sheet(k, (k + 1) % 3, 2), 1);
            due("no further", x.put(k, 2, 7), INDEX);
            due("as long again", x.sheet(k, (k + 1) % 3, 60), 1);
            due("zeros", x.cell(k, 59, (k + 1) % 3), 0);
        }
        due("no cells", x.sheet(0, BYTES, 0), 1);
        due("no cell", x.put(0, 0, 0), INDEX);
        due("it had something", x.lose(0), 1);
        x.sheet(1, INTS, 3);
        x.put(1, 0, 5);
        for (int wild : WILD) {
            due("sheet", x.sheet(wild, 9, -1), WeatherPass.UNKNOWN);
            due("lane", x.sheet(1, wild, -1), WeatherPass.OUTSIDE);
        }
        due("sheet 4", x.sheet(4, 0, 0), WeatherPass.UNKNOWN);
        due("lane 3", x.sheet(1, 3, 0), WeatherPass.OUTSIDE);
        due("61", x.sheet(1, 0, 61), WeatherPass.OUTSIDE);
        due("far too many", x.sheet(1, 0, Integer.MAX_VALUE), WeatherPass.OUTSIDE);
        due("-1", x.sheet(1, 0, -1), SIZE);
        due("far below 0", x.sheet(1, 0, Integer.MIN_VALUE), SIZE);
        due("refusals change nothing", x.cell(1, 0, INTS), 5);
    }

    private static void lose() {
        WeatherPass x = new WeatherPass();
        for (int k = 0; k < 4; k++) {
            due("nothing", x.lose(k), 0);
            x.sheet(k, INTS, 1);
            due("something", x.lose(k), 1);
            due("nothing again", x.lose(k), 0);
            due("no cells", x.put(k, 0, 1), NULL);
        }
        due("sheet 4", x.lose(4), WeatherPass.UNKNOWN);
        for (int wild : WILD) {
            due("sheet", x.lose(wild), WeatherPass.UNKNOWN);
        }
    }

    private static void put() {
        WeatherPass x = new WeatherPass();
        for (int lane = 0; lane < 3; lane++) {
            x.sheet(lane, lane, 3);
        }
        int[] values = {127, 128, 255, 256, -129, 32767, 32768, 65535, 65536, -32769, Integer.MIN_VALUE, 7};
        for (int v : values) {
            for (int lane = 0; lane < 3; lane++) {
                due("put", x.put(lane, 1, v), 1);
            }
            due("byte", x.cell(0, 1, BYTES), (byte) v);
            due("short", x.cell(1, 1, SHORTS), (short) v);
            due("int", x.cell(2, 1, INTS), v);
        }
        due("others stay", x.cell(2, 0, INTS) + x.cell(2, 2, INTS), 0);
        due("nothing", x.put(3, -1, 0), NULL);
        due("cell 3", x.put(0, 3, 0), INDEX);
        for (int wild : WILD) {
            due("sheet", x.put(wild, -1, 0), WeatherPass.UNKNOWN);
            due("cell", x.put(0, wild, 0), INDEX);
        }
        due("sheet 4", x.put(4, 0, 0), WeatherPass.UNKNOWN);
    }

    private static void cell() {
        WeatherPass x = new WeatherPass();
        writeRow(x, 1, SHORTS, -1, 300, 5);
        due("cell 0", x.cell(1, 0, SHORTS), -1);
        due("cell 2", x.cell(1, 2, SHORTS), 5);
        due("cell 3", x.cell(1, 3, SHORTS), WeatherPass.LOST);
        due("INDEX", x.fault(), 3);
        due("of another lane", x.cell(1, 9, BYTES), WeatherPass.LOST);
        due("CAST", x.fault(), 2);
        due("nothing", x.cell(0, 9, BYTES), WeatherPass.LOST);
        due("NULL", x.fault(), 1);
        due("sheet 4", x.cell(4, 0, 0), WeatherPass.LOST);
        due("refused", x.fault(), 0);
        x.cell(0, 0, 0);
        due("lane 3", x.cell(0, 0, 3), WeatherPass.LOST);
        due("refused", x.fault(), 0);
        for (int wild : WILD) {
            due("sheet", x.cell(wild, 0, 0), WeatherPass.LOST);
            due("lane", x.cell(1, 0, wild), WeatherPass.LOST);
            due("refused", x.fault(), 0);
            due("cell", x.cell(1, wild, SHORTS), WeatherPass.LOST);
            due("INDEX", x.fault(), 3);
        }
        due("cell 1", x.cell(1, 1, SHORTS), 300);
        due("no fault", x.fault(), 0);
    }

    private static void copy() {
        WeatherPass x = new WeatherPass();
        writeRow(x, 0, INTS, 1, 2, 3, 4, 5);
        writeRow(x, 1, INTS, 0, 0, 0);
        due("to another", x.copy(0, 1, 1, 0, 3), 3);
        holds(x, 1, 2, 3, 4);
        due("up", x.copy(0, 0, 0, 1, 4), 4);
        holds(x, 0, 1, 1, 2, 3, 4);
        due("down", x.copy(0, 1, 0, 0, 4), 4);
        holds(x, 0, 1, 2, 3, 4, 4);
        due("none, at the ends", x.copy(0, 5, 1, 3, 0), 0);
        int[][] beyond = {{-1, 0, 1}, {0, -1, 1}, {0, 0, -1}, {6, 0, 0}, {0, 4, 0}, {0, 0, 4}, {3, 0, 3}, {0, 1, 3},
            {-1, 0, 0}, {0, -1, 0}, {1, 1, Integer.MAX_VALUE}, {Integer.MAX_VALUE, 0, 1}, {0, Integer.MAX_VALUE, 1},
            {0, 0, Integer.MIN_VALUE}, {Integer.MIN_VALUE, 0, Integer.MAX_VALUE}};
        for (int[] c : beyond) {
            due("beyond", x.copy(0, c[0], 1, c[1], c[2]), INDEX);
        }
        holds(x, 1, 2, 3, 4);
        due("the first is nothing", x.copy(2, -1, 0, 0, 1), NULL);
        due("the other is nothing", x.copy(0, -1, 2, 0, 1), NULL);
        x.sheet(2, SHORTS, 5);
        due("unlike lanes", x.copy(0, -1, 2, 0, 1), CAST);
        due("unlike lanes", x.copy(2, 0, 0, 0, 0), CAST);
        for (int wild : WILD) {
            due("first", x.copy(wild, 0, 3, 0, 0), WeatherPass.UNKNOWN);
            due("other", x.copy(3, 0, wild, 0, 0), WeatherPass.UNKNOWN);
        }
        due("sheet 4", x.copy(4, 0, 0, 0, 0), WeatherPass.UNKNOWN);
        due("other sheet 4", x.copy(0, 0, 4, 0, 0), WeatherPass.UNKNOWN);
    }

    private static void holds(WeatherPass x, int sheet, int... row) {
        for (int i = 0; i < row.length; i++) {
            due("cell " + i, x.cell(sheet, i, INTS), row[i]);
        }
    }

    private static void tell() {
        WeatherPass x = withLand();
        int[] tellings = {3, 104, 104};
        int[] traces = {1, (31 + 2) * 31 + 1, 0};
        traces[2] = ((traces[1] * 31 + 3) * 31 + 2) * 31 * 31 + 31 + 1;
        due("post", x.tell(0), 3);
        due("its trace", x.trace(), 1);
        due("customs", x.tell(1), 104);
        due("its trace", x.trace(), traces[1]);
        x.limit(2, 9);
        due("free one", x.tell(2), 118);
        due("its trace", x.trace(), traces[2]);
        x.limit(2, 2);
        for (int p = 0; p < 3; p++) {
            due("tell " + p, x.tell(p), tellings[p]);
        }
        int trace = x.trace();
        due("post 3", x.tell(3), WeatherPass.UNKNOWN);
        for (int wild : WILD) {
            due("post", x.tell(wild), WeatherPass.UNKNOWN);
        }
        due("refusals leave no trace", x.trace(), trace);
        due("no land", new WeatherPass().tell(0), WeatherPass.UNKNOWN);
    }

    private static void stamp() {
        WeatherPass x = withLand();
        due("post 0", x.stamp(0), 0);
        due("its trace", x.trace(), 4);
        due("post 1", x.stamp(1), 1);
        due("its trace", x.trace(), 4 * 31 + 4);
        due("a free one", x.stamp(2), 30);
        due("its trace", x.trace(), (4 * 31 + 4) * 31 + 5);
        due("post 3", x.stamp(3), WeatherPass.UNKNOWN);
        for (int wild : WILD) {
            due("post", x.stamp(wild), WeatherPass.UNKNOWN);
        }
        due("refusals leave no trace", x.trace(), (4 * 31 + 4) * 31 + 5);
        x = withLand("v6,00,00,00,00,00,00-f1-f1-f1-c1-p1;1");
        int[] stamps = {30, 30, 30, 3, 4};
        for (int p = 0; p < 5; p++) {
            due("stamp " + p, x.stamp(p), stamps[p]);
        }
        due("no land", new WeatherPass().stamp(0), WeatherPass.UNKNOWN);
    }

    private static void as() {
        WeatherPass x = withLand();
        for (int p = 0; p < 3; p++) {
            for (int kind = 0; kind < 3; kind++) {
                due("as(" + p + ", " + kind + ")", x.as(p, kind), kind <= p ? 1 : CAST);
                due("fault", x.fault(), kind <= p ? 0 : 2);
            }
            due("kind 3", x.as(p, 3), WeatherPass.OUTSIDE);
            due("kind -1", x.as(p, -1), WeatherPass.OUTSIDE);
        }
        due("post 3", x.as(3, 3), WeatherPass.UNKNOWN);
        for (int wild : WILD) {
            due("post", x.as(wild, 0), WeatherPass.UNKNOWN);
            due("kind", x.as(0, wild), WeatherPass.OUTSIDE);
        }
        due("it stays what it is", x.ofPost(0, 0), 0);
        due("no land", new WeatherPass().as(0, 0), WeatherPass.UNKNOWN);
    }

    private static void trace() {
        WeatherPass x = withLand();
        due("at first", x.trace(), 0);
        int trace = 0;
        for (int k = 0; k < 30; k++) {
            x.tell(2);
            for (int body : new int[] {3, 2, 1, 1}) {
                trace = 31 * trace + body;
            }
            due("wraps", x.trace(), trace);
            due("is not changed by itself", x.trace(), trace);
        }
        x.lets(0, 9);
        x.as(2, 1);
        due("by others neither", x.trace(), trace);
        x.stamp(0);
        due("stamped", x.trace(), 31 * trace + 4);
    }

    private static void fault() {
        WeatherPass x = new WeatherPass();
        due("ahead of any", x.fault(), 0);
        faultOf(x, "put NULL", x.put(0, 0, 0), NULL);
        x.lose(9);
        x.tell(0);
        x.odds(0, 0);
        x.many(9);
        x.limit(0, 0);
        x.flood(0);
        due("calls that name none leave it", x.fault(), 1);
        faultOf(x, "put refused", x.put(9, 0, 0), 0);
        faultOf(x, "sheet SIZE", x.sheet(0, 0, -1), SIZE);
        faultOf(x, "sheet", x.sheet(0, 0, 3), 0);
        faultOf(x, "put INDEX", x.put(0, 3, 0), INDEX);
        faultOf(x, "put", x.put(0, 2, 0), 0);
        faultOf(x, "land SIZE", x.land(0, 0, 0, -1), SIZE);
        faultOf(x, "land of no text", x.land(0, 0, 0, 0), 0);
        faultOf(x, "land CAST", x.land(0, 1, 0, 0), CAST);
        faultOf(x, "land refused", x.land(0, 3, 0, 0), 0);
        faultOf(x, "plan INDEX", x.plan(0, 0, 0, 4, 0), INDEX);
        faultOf(x, "plan without land", x.plan(0, 0, 0, 3, 0), 0);
        faultOf(x, "plan INDEX", x.plan(0, 0, 0, 4, 0), INDEX);
        faultOf(x, "plan of no sheet", x.plan(4, 0, 0, 4, 0), 0);
        faultOf(x, "plan SIZE", x.plan(0, 0, 0, -1, 0), SIZE);
        faultOf(x, "plan of no lane", x.plan(0, 3, 0, 4, 0), 0);
        faultOf(x, "land INDEX", x.land(0, 0, 0, 4), INDEX);
        faultOf(x, "land of no sheet", x.land(4, 0, 0, 4), 0);
        faultOf(x, "copy NULL", x.copy(0, 0, 1, 0, 0), NULL);
        faultOf(x, "copy refused", x.copy(0, 0, 4, 0, 0), 0);
        faultOf(x, "copy INDEX", x.copy(0, 0, 0, 0, 4), INDEX);
        faultOf(x, "as refused", x.as(0, 0), 0);
        faultOf(x, "copy INDEX", x.copy(0, 0, 0, 0, 4), INDEX);
        faultOf(x, "sheet refused", x.sheet(0, 0, 61), 0);
        faultOf(x, "copy INDEX", x.copy(0, 0, 0, 0, 4), INDEX);
        faultOf(x, "copy", x.copy(0, 0, 0, 0, 3), 0);
    }

    private static void faultOf(WeatherPass x, String call, int got, int want) {
        due("fault of " + call, x.fault(), want < 0 ? -10 - want : 0);
        if (want < 0) {
            due(call, got, want);
        }
    }

    private static void many() {
        WeatherPass x = withLand();
        x.reading(0, 0, 0);
        x.reading(0, 0, 0);
        int[] howMany = {3, 4, 4, 2};
        for (int what = 0; what < 4; what++) {
            due("many " + what, x.many(what), howMany[what]);
        }
        due("what 4", x.many(4), WeatherPass.OUTSIDE);
        for (int wild : WILD) {
            due("what", x.many(wild), WeatherPass.OUTSIDE);
            due("no land", new WeatherPass().many(wild), WeatherPass.OUTSIDE);
        }
        x = withLand("v2,00,00-p0;1234567");
        due("posts", x.many(0), 1);
        due("fields", x.many(1), 2);
        due("days", x.many(2), 7);
        due("readings", x.many(3), 0);
    }
}
