import java.lang.reflect.Method;
import java.util.ArrayList;
import java.util.Arrays;
import java.util.Comparator;
import java.util.List;
import java.util.Random;
import java.util.TreeMap;
import java.util.regex.Matcher;
import java.util.regex.Pattern;

/** Runs of calls by chance (of fixed seeds) on the class and on a model of the document, side by side. */
public final class ModelTest {
    private static final int RUNS = 2000, CALLS = 512;
    private static final int[] WILD = {Integer.MIN_VALUE, Integer.MIN_VALUE + 1, -100, -2, 61, 100, 1000,
        Integer.MAX_VALUE - 1, Integer.MAX_VALUE};
    private static final TreeMap<String, Integer> GOOD_ANSWERS = new TreeMap<>();

    public static void main(String[] args) throws Exception {
        Method[] calls = WeatherPass.class.getDeclaredMethods();
        calls = Arrays.stream(calls).filter(m -> java.lang.reflect.Modifier.isPublic(m.getModifiers()))
            .sorted(Comparator.comparing(Method::getName)).toArray(Method[]::new);
        for (int seed = 0; seed < RUNS; seed++) {
            if (!run(seed, calls)) {
                System.exit(1);
            }
        }
        for (Method call : calls) {
            if (GOOD_ANSWERS.getOrDefault(call.getName(), 0) < 1000) {
                System.out.println("too few answers of " + call.getName() + " that are no refusals: " + GOOD_ANSWERS);
                System.exit(1);
            }
        }
        System.out.println(RUNS + " runs of " + CALLS + " calls are as the model's");
    }

    private static boolean run(int seed, Method[] calls) throws Exception {
        Random chance = new Random(seed);
        WeatherPass real = new WeatherPass();
        Model model = new Model();
        List<String> told = new ArrayList<>();
        List<Object[]> planned = new ArrayList<>();
        for (int k = 0; k < CALLS; k++) {
            if (planned.isEmpty()) {
                plan(planned, chance, model, calls);
            }
            Object[] next = planned.remove(0);
            String name = (String) next[0];
            Object[] numbers = Arrays.copyOfRange(next, 1, next.length);
            Class<?>[] types = new Class<?>[numbers.length];
            Arrays.fill(types, int.class);
            long got = ((Number) WeatherPass.class.getMethod(name, types).invoke(real, numbers)).longValue();
            long want = ((Number) Model.class.getDeclaredMethod(name, types).invoke(model, numbers)).longValue();
            told.add(name + Arrays.toString(numbers) + " " + got);
            if (got != want) {
                System.out.println("seed " + seed + ": due is " + want + " in the last of");
                told.forEach(System.out::println);
                return false;
            }
            if (got >= 0) {
                GOOD_ANSWERS.merge(name, 1, Integer::sum);
            }
        }
        return true;
    }

    private static void plan(List<Object[]> planned, Random chance, Model model, Method[] calls) {
        int way = chance.nextInt(60);
        if (way == 0 || model.fields == 0 && way < 20) {
            planRow(planned, chance, "land", text(chance));
        } else if (way < 4) {
            int n = chance.nextInt(8) == 0 ? chance.nextInt(9) : model.days;
            int[] row = new int[n];
            for (int i = 0; i < n; i++) {
                row[i] = chance.nextInt(40) == 0 ? number(chance) : chance.nextInt(Math.max(1, 1 << model.fields - 1));
            }
            planRow(planned, chance, "plan", row);
        } else if (way == 4) {
            planCopies(planned, chance);
        } else if (way < 7) {
            int t = chance.nextInt(model.days + 1);
            int f = chance.nextInt(Math.max(1, model.fields));
            int v = Math.max(0, (int) model.wet(f, t) + (chance.nextInt(3) == 0 ? chance.nextInt(3) - 1 : 0));
            planned.add(new Object[] {"reading", f, t, v});
            for (String name : new String[] {"limits", "kinds", "rains"}) {
                planned.add(new Object[] {name, chance.nextInt(5)});
            }
            if (chance.nextInt(2) == 0) {
                planned.add(new Object[] {"back", 1});
            }
        } else {
            Method call = calls[chance.nextInt(calls.length)];
            Object[] next = new Object[call.getParameterCount() + 1];
            next[0] = call.getName();
            for (int i = 1; i < next.length; i++) {
                next[i] = number(chance);
            }
            planned.add(next);
        }
    }

    private static void planRow(List<Object[]> planned, Random chance, String name, int[] row) {
        int k = chance.nextInt(4);
        int lane = chance.nextInt(3);
        int ahead = Math.min(60 - row.length, chance.nextInt(3));
        planned.add(new Object[] {"sheet", k, lane, Math.min(60, ahead + row.length + chance.nextInt(2))});
        for (int i = 0; i < row.length; i++) {
            planned.add(new Object[] {"put", k, ahead + i, row[i]});
        }
        int i = chance.nextInt(20) == 0 ? number(chance) : ahead;
        int n = chance.nextInt(20) == 0 ? number(chance) : row.length;
        int asLane = chance.nextInt(20) == 0 ? number(chance) : lane;
        if (name.equals("land")) {
            planned.add(new Object[] {name, k, asLane, i, n});
            return;
        }
        int[] whats = {0, 1, 2, 3, 10, 11, 12, 13, 14, 15, 20, 21, 22, 23, 24, 25, 4, 16, 26, -1};
        for (int what : whats) {
            planned.add(new Object[] {name, k, asLane, i, n, what});
        }
    }

    private static void planCopies(List<Object[]> planned, Random chance) {
        int lane = chance.nextInt(3);
        int from = chance.nextInt(4);
        int to = chance.nextInt(4);
        planned.add(new Object[] {"sheet", to, lane, 6});
        planned.add(new Object[] {"sheet", from, lane, 6});
        for (int i = 0; i < 6; i++) {
            planned.add(new Object[] {"put", from, i, chance.nextInt()});
        }
        for (int times = 0; times < 4; times++) {
            planned.add(new Object[] {"copy", from, chance.nextInt(4), to, chance.nextInt(4), chance.nextInt(5)});
        }
        for (int i = 0; i < 6; i++) {
            planned.add(new Object[] {"cell", to, i, lane});
        }
    }

    private static int[] text(Random chance) {
        int fields = 2 + chance.nextInt(5);
        int days = chance.nextInt(20) == 0 ? 9 * chance.nextInt(2) : 1 + chance.nextInt(8);
        int most = 2 + chance.nextInt(9);
        StringBuilder text = new StringBuilder("v").append(fields);
        for (int f = 0; f < fields; f++) {
            text.append(',').append(chance.nextInt(10)).append(chance.nextInt(10));
        }
        for (int p = 1; p < fields; p++) {
            text.append('-').append("pcf".charAt(chance.nextInt(3))).append(chance.nextInt(Math.min(10, most)));
        }
        text.append(';');
        for (int day = 0; day < days; day++) {
            text.append(chance.nextInt(10));
        }
        if (chance.nextInt(4) == 0) {
            int at = chance.nextInt(text.length());
            text.setCharAt(at, "vpcf,-;0123456789 /:xP".charAt(chance.nextInt(22)));
        }
        if (chance.nextInt(8) == 0) {
            text.setLength(chance.nextInt(text.length()));
        }
        return text.chars().toArray();
    }

    private static int number(Random chance) {
        int way = chance.nextInt(40);
        if (way == 0) {
            return WILD[chance.nextInt(WILD.length)];
        }
        if (way == 1) {
            return chance.nextInt();
        }
        return way < 5 ? chance.nextInt(14) - 2 : chance.nextInt(way < 25 ? 4 : 9);
    }

    /** The document's words, as plainly as a library allows; not fast, and not sparing. */
    private static final class Model {
        static final int UNKNOWN = -1, OUTSIDE = -2, STATE = -3, FULL = -4, NONE = -9;
        static final Pattern TEXT = Pattern.compile("v(?:2(,\\d\\d){2}(-[pcf]\\d){1}|3(,\\d\\d){3}(-[pcf]\\d){2}"
            + "|4(,\\d\\d){4}(-[pcf]\\d){3}|5(,\\d\\d){5}(-[pcf]\\d){4}|6(,\\d\\d){6}(-[pcf]\\d){5});\\d{1,8}");

        int fields = 0;
        int days = 0;
        String numbers = "";
        int[] rain = {};
        int[] kind = {};
        int[] limit = {};
        List<int[]> readings = new ArrayList<>();
        int[][] sheet = new int[4][];
        int[] lane = new int[4];
        int trace = 0;
        int fault = 0;

        private interface Days {
            boolean any(int day, int p);
        }

        /** Per day and field: wet, fell. */
        private int[][][] days(int[] ofRain, Days papers, Days closed) {
            int[][][] told = new int[days + 1][fields][2];
            for (int day = 0; day < days; day++) {
                int much = ofRain[day];
                for (int f = 0; f < fields; f++) {
                    int by = 0;
                    if (f + 1 < fields) {
                        by = papers.any(day, f) ? much : closed.any(day, f) ? 0 : by(f, much);
                    }
                    told[day + 1][f][0] = (told[day][f][0] == 0 ? 0 : told[day][f][0] - 1) + (much - by);
                    told[day + 1][f][1] = told[day][f][1] + (much - by);
                    much = by;
                }
            }
            return told;
        }

        private int[][][] days() {
            return days(rain, (day, p) -> false, (day, p) -> false);
        }

        private int by(int p, int much) {
            int post = limit[p] <= much ? limit[p] : much;
            if (kind[p] == 1) {
                return post == 0 ? 0 : post - 1;
            }
            return kind[p] == 2 ? (post + post > much ? much : post + post) : post;
        }

        private int needs(int f) {
            return numbers.charAt(3 + 3 * f) - 48;
        }

        private int holds(int f) {
            return numbers.charAt(4 + 3 * f) - 48;
        }

        private List<int[]> floods(int[][][] told) {
            List<int[]> floods = new ArrayList<>();
            for (int day = 0; day < days; day++) {
                for (int f = 0; f < fields; f++) {
                    if (told[day + 1][f][0] > holds(f)) {
                        floods.add(new int[] {day, f});
                    }
                }
            }
            return floods;
        }

        private int enough(int[][][] told) {
            int set = 0;
            for (int f = 0; f < fields; f++) {
                set += told[days][f][1] >= needs(f) ? 1 << f : 0;
            }
            return set;
        }

        private boolean isField(int f) {
            return f >= 0 && f < fields;
        }

        private boolean isPost(int p) {
            return p >= 0 && p < fields - 1;
        }

        private int faulted(int which) {
            fault = which;
            return -10 - which;
        }

        /** The fault of cells, 0 if none. */
        private int ofCells(int k, int asLane, long i, long n) {
            if (sheet[k] != null && lane[k] != asLane) {
                return 2;
            }
            if (sheet[k] == null) {
                return 1;
            }
            if (n < 0) {
                return 4;
            }
            return i < 0 || i > sheet[k].length || i + n > sheet[k].length ? 3 : 0;
        }

        int land(int k, int asLane, int i, int n) {
            fault = 0;
            if (k < 0 || k > 3) {
                return UNKNOWN;
            }
            if (asLane < 0 || asLane > 2) {
                return OUTSIDE;
            }
            if (ofCells(k, asLane, i, n) != 0) {
                return faulted(ofCells(k, asLane, i, n));
            }
            StringBuilder codes = new StringBuilder();
            for (int c = i; c < i + n; c++) {
                codes.append(sheet[k][c] < 0 || sheet[k][c] > 127 ? '?' : (char) sheet[k][c]);
            }
            String text = codes.toString();
            if (!TEXT.matcher(text).matches()) {
                return -100 - firstFault(text);
            }
            numbers = text;
            fields = text.charAt(1) - 48;
            String[] parts = text.split(";");
            rain = parts[1].chars().map(c -> c - 48).toArray();
            days = rain.length;
            String[] borders = parts[0].split("-");
            kind = new int[fields - 1];
            limit = new int[fields - 1];
            for (int p = 0; p < fields - 1; p++) {
                kind[p] = "pcf".indexOf(borders[p + 1].charAt(0));
                limit[p] = borders[p + 1].charAt(1) - 48;
            }
            readings.clear();
            return fields - 1;
        }

        private static int firstFault(String text) {
            int length = text.length();
            while (length > 0 && !goesOn(text.substring(0, length))) {
                length--;
            }
            return length;
        }

        private static boolean goesOn(String start) {
            Matcher matcher = TEXT.matcher(start);
            return matcher.matches() || matcher.hitEnd();
        }

        int ofField(int f, int what) {
            return !isField(f) ? UNKNOWN : what == 0 ? needs(f) : what == 1 ? holds(f) : OUTSIDE;
        }

        int ofPost(int p, int what) {
            return !isPost(p) ? UNKNOWN : what == 0 ? kind[p] : what == 1 ? limit[p] : OUTSIDE;
        }

        int lets(int p, int much) {
            return !isPost(p) ? UNKNOWN : much < 0 || much > 99 ? OUTSIDE : by(p, much);
        }

        int limit(int p, int v) {
            if (!isPost(p) || v < 0 || v > 9) {
                return !isPost(p) ? UNKNOWN : OUTSIDE;
            }
            int was = limit[p];
            limit[p] = v;
            return was;
        }

        int rain(int day, int v) {
            if (fields == 0 || day < 0 || day >= days || v < 0 || v > 9) {
                return fields == 0 ? STATE : OUTSIDE;
            }
            int was = rain[day];
            rain[day] = v;
            return was;
        }

        int wet(int f, int t) {
            return !isField(f) ? UNKNOWN : t < 0 || t > days ? OUTSIDE : days()[t][f][0];
        }

        int fell(int f, int t) {
            return !isField(f) ? UNKNOWN : t < 0 || t > days ? OUTSIDE : days()[t][f][1];
        }

        int flood(int what) {
            if (what != 0 && what != 1) {
                return OUTSIDE;
            }
            if (fields == 0) {
                return STATE;
            }
            List<int[]> floods = floods(days());
            return floods.isEmpty() ? NONE : floods.get(0)[what];
        }

        int enough() {
            return fields == 0 ? STATE : enough(days());
        }

        int plan(int k, int asLane, int i, int n, int what) {
            fault = 0;
            if (k < 0 || k > 3) {
                return UNKNOWN;
            }
            if (asLane < 0 || asLane > 2 || !List.of(0, 1, 2, 3, 10, 11, 12, 13, 14, 15, 20, 21, 22, 23, 24, 25)
                    .contains(what)) {
                return OUTSIDE;
            }
            if (ofCells(k, asLane, i, n) != 0) {
                return faulted(ofCells(k, asLane, i, n));
            }
            if (fields == 0) {
                return STATE;
            }
            int[] sets = Arrays.copyOfRange(sheet[k], i, i + n);
            if (n != days || Arrays.stream(sets).anyMatch(set -> set >>> fields - 1 != 0)) {
                return OUTSIDE;
            }
            int[][][] told = days(rain, (day, p) -> (sets[day] & 1 << p) != 0, (day, p) -> false);
            List<int[]> floods = floods(told);
            if (what == 0) {
                return floods.size();
            }
            if (what < 3) {
                return floods.isEmpty() ? NONE : floods.get(0)[what - 1];
            }
            return what == 3 ? enough(told) : what % 10 >= fields ? NONE : told[days][what % 10][what / 10 - 1];
        }

        /** All sets of posts, those of fewer first, then the least. */
        private List<Integer> sets() {
            List<Integer> sets = new ArrayList<>();
            for (int set = 0; set < 1 << fields - 1; set++) {
                sets.add(set);
            }
            sets.sort(Comparator.<Integer>comparingInt(Integer::bitCount).thenComparingInt(set -> set));
            return sets;
        }

        private int[][][] withPapers(int set) {
            return days(rain, (day, p) -> (set & 1 << p) != 0, (day, p) -> false);
        }

        int papers() {
            return fields == 0 ? STATE : sets().stream().filter(set -> floods(withPapers(set)).isEmpty())
                .findFirst().orElse(NONE);
        }

        int most() {
            return fields == 0 ? STATE : sets().stream()
                .sorted(Comparator.comparingInt(set -> -Integer.bitCount(enough(withPapers(set))))).findFirst().get();
        }

        int shut(int f) {
            return !isField(f) ? UNKNOWN : sets().stream()
                .filter(set -> floods(days(rain, (day, p) -> false, (day, p) -> (set & 1 << p) != 0)).stream()
                    .noneMatch(flood -> flood[1] == f)).findFirst().orElse(NONE);
        }

        int reading(int f, int t, int v) {
            if (!isField(f)) {
                return UNKNOWN;
            }
            if (t < 0 || t > days || v < 0 || v > 99) {
                return OUTSIDE;
            }
            if (readings.size() == 8) {
                return FULL;
            }
            readings.add(new int[] {f, t, v});
            return readings.size() - 1;
        }

        int back(int k) {
            if (k < 0 || k > readings.size()) {
                return OUTSIDE;
            }
            readings = new ArrayList<>(readings.subList(0, readings.size() - k));
            return readings.size();
        }

        private int by(int[] row, int k, int many) {
            int was = row[k];
            int set = 0;
            for (row[k] = 0; row[k] < many; row[k]++) {
                int[][][] told = days();
                set += readings.stream().allMatch(r -> told[r[1]][r[0]][0] == r[2]) ? 1 << row[k] : 0;
            }
            row[k] = was;
            return set;
        }

        int limits(int p) {
            return !isPost(p) ? UNKNOWN : by(limit, p, 10);
        }

        int kinds(int p) {
            return !isPost(p) ? UNKNOWN : by(kind, p, 3);
        }

        int rains(int day) {
            return fields == 0 ? STATE : day < 0 || day >= days ? OUTSIDE : by(rain, day, 10);
        }

        long odds(int f, int which) {
            if (!isField(f) || which < 0 || which > 1) {
                return Long.MIN_VALUE;
            }
            long upper = 0;
            long lower = 0;
            for (int set = 0; set < 1 << days; set++) {
                int[] some = rain.clone();
                for (int day = 0; day < days; day++) {
                    some[day] *= set >> day & 1;
                }
                lower++;
                upper += floods(days(some, (d, p) -> false, (d, p) -> false)).stream()
                    .anyMatch(flood -> flood[1] == f) ? 1 : 0;
            }
            long common = java.math.BigInteger.valueOf(upper).gcd(java.math.BigInteger.valueOf(lower)).longValue();
            return (which == 0 ? upper : lower) / common;
        }

        int sheet(int k, int asLane, int n) {
            fault = 0;
            if (k < 0 || k > 3) {
                return UNKNOWN;
            }
            if (asLane < 0 || asLane > 2 || n > 60) {
                return OUTSIDE;
            }
            if (n < 0) {
                return faulted(4);
            }
            sheet[k] = new int[n];
            lane[k] = asLane;
            return 1;
        }

        int lose(int k) {
            if (k < 0 || k > 3) {
                return UNKNOWN;
            }
            int had = sheet[k] == null ? 0 : 1;
            sheet[k] = null;
            return had;
        }

        int put(int k, int i, int v) {
            fault = 0;
            if (k < 0 || k > 3) {
                return UNKNOWN;
            }
            if (sheet[k] == null) {
                return faulted(1);
            }
            if (i < 0 || i >= sheet[k].length) {
                return faulted(3);
            }
            int bits = 24 - 8 * lane[k] - (lane[k] == 2 ? 8 : 0);
            sheet[k][i] = v << bits >> bits;
            return 1;
        }

        long cell(int k, int i, int asLane) {
            fault = 0;
            if (k < 0 || k > 3 || asLane < 0 || asLane > 2) {
                return Long.MIN_VALUE;
            }
            fault = sheet[k] == null ? 1 : lane[k] != asLane ? 2 : i < 0 || i >= sheet[k].length ? 3 : 0;
            return fault == 0 ? sheet[k][i] : Long.MIN_VALUE;
        }

        int copy(int k, int i, int other, int j, int n) {
            fault = 0;
            if (k < 0 || k > 3 || other < 0 || other > 3) {
                return UNKNOWN;
            }
            if (sheet[k] == null || sheet[other] == null) {
                return faulted(1);
            }
            if (lane[k] != lane[other]) {
                return faulted(2);
            }
            if (i < 0 || j < 0 || n < 0 || (long) i + n > sheet[k].length || (long) j + n > sheet[other].length) {
                return faulted(3);
            }
            int[] were = sheet[k].clone();
            for (int c = 0; c < n; c++) {
                sheet[other][j + c] = were[i + c];
            }
            return n;
        }

        private void bodies(int... bodies) {
            for (int body : bodies) {
                trace = trace * 31 + body;
            }
        }

        int tell(int p) {
            if (!isPost(p)) {
                return UNKNOWN;
            }
            if (kind[p] == 0) {
                bodies(1);
                return limit[p];
            }
            if (kind[p] == 1) {
                bodies(2, 1);
                return limit[p] + 100;
            }
            bodies(3, 2, 1, 1);
            return limit[p] * 2 + 100;
        }

        int stamp(int p) {
            if (!isPost(p)) {
                return UNKNOWN;
            }
            bodies(kind[p] == 2 ? 5 : 4);
            return kind[p] == 2 ? 30 : p;
        }

        int as(int p, int asKind) {
            fault = 0;
            if (!isPost(p)) {
                return UNKNOWN;
            }
            if (asKind < 0 || asKind > 2) {
                return OUTSIDE;
            }
            return asKind <= kind[p] ? 1 : faulted(2);
        }

        int trace() {
            return trace;
        }

        int fault() {
            return fault;
        }

        int many(int what) {
            int[] many = {Math.max(0, fields - 1), fields, days, readings.size()};
            return what < 0 || what > 3 ? OUTSIDE : many[what];
        }
    }
}
