import java.util.ArrayList;
import java.util.List;
import java.util.function.Supplier;

/** What the tests share: answers that are due, objects that are laid out, and pictures of all that an object tells. */
abstract class Bench {
    static final int BYTES = 0, SHORTS = 1, INTS = 2;
    // Numbers of the document, not of the class: a class with other constants must not pass.
    static final int UNKNOWN = -1, OUTSIDE = -2, STATE = -3, FULL = -4, NONE = -9;
    static final int NULL = -11, CAST = -12, INDEX = -13, SIZE = -14;
    static final long LOST = Long.MIN_VALUE;
    /** Fields 3/5, 6/4, 2/8, 9/5; posts p3, c4, f2; rain 5, 9, 0, 7. */
    static final String LAND = "v4,35,64,28,95-p3-c4-f2;5907";

    private static final int SHOWN_OF_A_PLACE = 3;

    private static int right = 0;
    private static int wrong = 0;
    private static String place = "";
    private static int wrongHere = 0;

    interface Call {
        long of(WeatherPass x);
    }

    interface CallOf {
        long of(WeatherPass x, int v);
    }

    static void at(String where) {
        place = where;
        wrongHere = 0;
    }

    static int lookedAt() {
        return right + wrong;
    }

    static void due(String what, long got, long want) {
        if (got == want) {
            right++;
        } else {
            fails(what + " answered " + got + ", due is " + want);
        }
    }

    static void fails(String how) {
        wrong++;
        wrongHere++;
        if (wrongHere <= SHOWN_OF_A_PLACE) {
            System.out.println(place + ": " + how);
        }
    }

    /** Ends with exit code 1, if an answer was not as due. */
    static void end(String tests) {
        System.out.println(tests + ", " + right + " answers as due, " + wrong + " not");
        if (wrong != 0) {
            System.exit(1);
        }
    }

    // ---- objects

    static void write(WeatherPass x, int sheet, int lane, String text) {
        writeRow(x, sheet, lane, text.chars().toArray());
    }

    static void writeRow(WeatherPass x, int sheet, int lane, int... row) {
        due("sheet", x.sheet(sheet, lane, row.length), 1);
        for (int i = 0; i < row.length; i++) {
            due("put", x.put(sheet, i, row[i]), 1);
        }
    }

    static int landOf(WeatherPass x, String text) {
        write(x, 0, INTS, text);
        return x.land(0, INTS, 0, text.length());
    }

    static WeatherPass withLand(String text) {
        WeatherPass x = new WeatherPass();
        due("land " + text, landOf(x, text), text.charAt(1) - '1');
        return x;
    }

    static WeatherPass withLand() {
        return withLand(LAND);
    }

    /** A text of so many fields and days, whose numbers differ. */
    static String text(int fields, int days) {
        StringBuilder text = new StringBuilder("v").append(fields);
        for (int f = 0; f < fields; f++) {
            text.append(',').append(f + 1).append(9 - f);
        }
        for (int p = 0; p < fields - 1; p++) {
            text.append('-').append("pcf".charAt(p % 3)).append(p + 2);
        }
        text.append(';');
        for (int day = 0; day < days; day++) {
            text.append((day + 3) % 10);
        }
        return text.toString();
    }

    /** An object with sheets (28 shorts, 6 ints, 3 bytes, nothing) and the fault NULL, but without a land. */
    static WeatherPass bare() {
        WeatherPass x = new WeatherPass();
        write(x, 0, SHORTS, LAND);
        writeRow(x, 1, INTS, 0, 7, 1, 2, 4, -1);
        writeRow(x, 2, BYTES, -128, 127, 5);
        due("put", x.put(3, 0, 0), NULL);
        return x;
    }

    /** As bare(), with a land (4 fields, 3 posts, 4 days), a limit and a rain of its own, two readings and a trace. */
    static WeatherPass furnished() {
        WeatherPass x = bare();
        due("land", x.land(0, SHORTS, 0, LAND.length()), 3);
        due("limit", x.limit(0, 4), 3);
        due("rain", x.rain(2, 6), 0);
        due("reading", x.reading(0, 1, 1), 0);
        due("reading", x.reading(3, 2, 5), 1);
        due("tell", x.tell(2), 104);
        due("put", x.put(3, 0, 0), NULL);
        return x;
    }

    /** As furnished(), with as many readings as there can be. */
    static WeatherPass full() {
        WeatherPass x = furnished();
        for (int k = 2; k < 8; k++) {
            due("reading", x.reading(2, 0, 0), k);
        }
        return x;
    }

    // ---- refusals and faults

    /** Numbers below low and above high: the next ones, and those that a cut or a wrap could take for one between. */
    static int[] beyond(int low, int high) {
        return new int[] {low - 1, high + 1, low - 2, high + 2, low - 256, high + 256, low + 65536, high - 65536,
            Integer.MIN_VALUE, Integer.MIN_VALUE + high + 1, Integer.MAX_VALUE - 1, Integer.MAX_VALUE};
    }

    /** A refusal on an object: it tells what is due and changes nothing; fault() is then as told. */
    static void stays(Supplier<WeatherPass> made, String what, Call call, long want, int faultBehind) {
        WeatherPass x = made.get();
        due(what, call.of(x), want);
        due("fault() behind " + what, x.fault(), faultBehind);
        List<Long> was = picture(made.get());
        List<Long> is = picture(x);
        if (!is.equals(was)) {
            fails(what + " changed something: " + was + " became " + is);
        }
    }

    /** A refusal of a call that names no FAULTS: it leaves fault(), too (NULL, as furnished). */
    static void refused(String what, Call call, long want) {
        stays(Bench::furnished, what, call, want, 1);
    }

    static void refusedEach(String what, int[] values, CallOf call, long want) {
        for (int v : values) {
            refused(what + " " + v, x -> call.of(x, v), want);
        }
    }

    /** A call of a post that names no FAULTS: there is no post beyond the last one, and none without a land. */
    static void unknownPosts(String name, CallOf call) {
        refusedEach(name + " of post", beyond(0, 2), call, UNKNOWN);
        stays(Bench::bare, name + " without a land", x -> call.of(x, 0), UNKNOWN, 1);
        for (int fields = 2; fields <= 6; fields++) {
            WeatherPass x = withLand(text(fields, 1));
            due(name + " of one more than there are", call.of(x, fields - 1), UNKNOWN);
            due("no trace", x.trace(), 0);
            due(name + " of the last", call.of(x, fields - 2) < 0 ? 1 : 0, 0);
        }
    }

    /** A refusal of a call that names FAULTS: fault() is 0 behind it. */
    static void refusedOfFaults(String what, Call call, long want) {
        stays(Bench::furnished, what, call, want, 0);
    }

    static void refusedOfFaultsEach(String what, int[] values, CallOf call, long want) {
        for (int v : values) {
            refusedOfFaults(what + " " + v, x -> call.of(x, v), want);
        }
    }

    /** A call that comes to a fault (-11 .. -14): it answers so, changes nothing, and fault() tells it. */
    static void faulted(String what, Call call, int want) {
        stays(Bench::furnished, what, call, want, -10 - want);
    }

    /** As faulted(), of a call that answers a long. */
    static void lostBy(String what, Call call, int fault) {
        stays(Bench::furnished, what, call, LOST, -10 - fault);
    }

    // ---- pictures

    /** All that an object tells but fault(); takes back its readings to see them, one by one. */
    static List<Long> picture(WeatherPass x) {
        List<Long> told = new ArrayList<>();
        told.add((long) x.trace());
        for (int what = 0; what < 4; what++) {
            told.add((long) x.many(what));
        }
        pictureOfLand(x, told);
        pictureOfSheets(x, told);
        pictureOfReadings(x, told);
        return told;
    }

    private static void pictureOfLand(WeatherPass x, List<Long> told) {
        for (int f = 0; f < 6; f++) {
            told.add((long) x.ofField(f, 0));
            told.add((long) x.ofField(f, 1));
            told.add((long) x.ofPost(f, 0));
            told.add((long) x.ofPost(f, 1));
        }
        // As all rain falls somewhere, what fell tells how much it rained.
        int days = Math.min(8, x.many(2));
        for (int f = 0; f < Math.min(6, x.many(1)); f++) {
            for (int t = 0; t <= days; t++) {
                told.add((long) x.wet(f, t));
                told.add((long) x.fell(f, t));
            }
        }
    }

    private static void pictureOfSheets(WeatherPass x, List<Long> told) {
        for (int k = 0; k < 4; k++) {
            for (int lane = 0; lane < 3; lane++) {
                int fault = 0;
                for (int i = 0; i <= 60 && fault == 0; i++) {
                    told.add(x.cell(k, i, lane));
                    fault = x.fault();
                }
                told.add((long) fault);
            }
        }
    }

    private static void pictureOfReadings(WeatherPass x, List<Long> told) {
        int posts = Math.min(5, x.many(0));
        int days = Math.min(8, x.many(2));
        for (int left = Math.min(8, x.many(3)); left > 0; left--) {
            for (int p = 0; p < posts; p++) {
                told.add((long) x.limits(p));
                told.add((long) x.kinds(p));
            }
            for (int day = 0; day < days; day++) {
                told.add((long) x.rains(day));
            }
            told.add((long) x.back(1));
        }
    }
}
