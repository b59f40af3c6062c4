/** Sheets, promises 22 to 26. */
final class SheetSentences extends Bench {
    private static final int[] CUT = {0, 1, -1, 127, 128, 129, -127, -128, -129, 255, 256, 257, -255, -256, -257, 32767,
        32768, 32769, -32767, -32768, -32769, 65535, 65536, 65537, -65535, -65536, -65537, 1 << 24, 8388608,
        Integer.MAX_VALUE, Integer.MIN_VALUE, Integer.MAX_VALUE - 128, Integer.MIN_VALUE + 128};

    private SheetSentences() {
    }

    static void tell(Sentences s) {
        s.of("Terms");
        s.says("SHEETS 0 .. 3 have nothing (at first)", SheetSentences::fourSheets);
        s.says("or a row of 0 .. 60 numbers (0 at first)", SheetSentences::rowsOfAllLengths);
        s.says("of a LANE: 0 bytes, 1 shorts, 2 ints;", SheetSentences::lanes);
        s.says("what comes to a cell of it is cut to its LANE.", SheetSentences::cutToLanes);
        s.of("Promise 22");
        s.says("A SHEET gets a new row: 1.", SheetSentences::newRow);
        s.says("UNKNOWN", () -> refusedOfFaultsEach("sheet", beyond(0, 3), (x, k) -> x.sheet(k, 0, 0), UNKNOWN));
        s.says("OUTSIDE: lane", () -> refusedOfFaultsEach("lane", beyond(0, 2), (x, v) -> x.sheet(0, v, 0), OUTSIDE));
        s.says(", n above 60", SheetSentences::above60);
        s.says("SIZE.", SheetSentences::below0);
        s.says("UNKNOWN; OUTSIDE: lane, n above 60; SIZE.", SheetSentences::sheetOrder);
        s.of("Promise 23");
        s.says("A SHEET has nothing: 1; 0: it had nothing.", SheetSentences::loseAll);
        s.says("UNKNOWN.", () -> refusedEach("sheet", beyond(0, 3), (x, k) -> x.lose(k), UNKNOWN));
        s.of("Promise 24");
        s.says("Cell i of a SHEET becomes v: 1.", SheetSentences::cellBecomes);
        s.says("UNKNOWN", () -> refusedOfFaultsEach("sheet", beyond(0, 3), (x, k) -> x.put(k, 0, 9), UNKNOWN));
        s.says("NULL", () -> faulted("put", x -> x.put(3, 0, 9), NULL));
        s.says("INDEX.", SheetSentences::putBeyond);
        s.says("UNKNOWN; NULL; INDEX.", () -> {
            refusedOfFaults("UNKNOWN ahead of all", x -> x.put(4, -1, 9), UNKNOWN);
            faulted("NULL ahead of INDEX", x -> x.put(3, -1, 9), NULL);
        });
        tellOfCells(s);
    }

    private static void tellOfCells(Sentences s) {
        s.of("Promise 25");
        s.says("Cell i of what a SHEET has, taken as a row of a LANE.", SheetSentences::cellsOfRows);
        s.says("LOST: UNKNOWN", () -> refusedOfFaultsEach("sheet", beyond(0, 3), (x, k) -> x.cell(k, 0, 1), LOST));
        s.says("OUTSIDE: lane", () -> refusedOfFaultsEach("lane", beyond(0, 2), (x, v) -> x.cell(0, 0, v), LOST));
        s.says("FAULTS CAST (nothing is no CAST), NULL", SheetSentences::cellCastAndNull);
        s.says(", INDEX.", SheetSentences::cellBeyond);
        s.says("UNKNOWN, OUTSIDE: lane; FAULTS CAST (nothing is no CAST), NULL, INDEX.", SheetSentences::cellOrder);
        s.of("Promise 26");
        s.says("n cells of a SHEET from i on go to another one", SheetSentences::copyToAnother);
        s.says("(perhaps the same) from j on, as they were: n.", SheetSentences::copyToTheSame);
        s.says("UNKNOWN", SheetSentences::copyOfNoSheet);
        s.says("FAULTS NULL (the first, the other)", SheetSentences::copyOfNothing);
        s.says("CAST (unlike LANES)", SheetSentences::copyToOtherLanes);
        s.says("INDEX: i, j, n below 0 or beyond.", SheetSentences::copyBeyond);
        s.says("UNKNOWN; FAULTS NULL (the first, the other), CAST (unlike LANES), INDEX: i, j, n below 0 or beyond.",
            SheetSentences::copyOrder);
    }

    private static void holds(WeatherPass x, int sheet, int lane, int... row) {
        for (int i = 0; i < row.length; i++) {
            due("cell " + i + " of sheet " + sheet, x.cell(sheet, i, lane), row[i]);
        }
        due("no cell behind them", x.cell(sheet, row.length, lane), LOST);
        due("fault", x.fault(), 3);
    }

    /** Sheets 0 and 1 of five and three numbers. */
    private static WeatherPass ofTwoRows(int lane) {
        WeatherPass x = new WeatherPass();
        writeRow(x, 0, lane, 1, 2, 3, 4, 5);
        writeRow(x, 1, lane, 7, 8, 9);
        return x;
    }

    // ---- terms

    private static void fourSheets() {
        WeatherPass x = new WeatherPass();
        for (int k = 0; k < 4; k++) {
            due("nothing to put to", x.put(k, 0, 0), NULL);
            due("nothing to lose", x.lose(k), 0);
        }
        for (int k = 0; k < 4; k++) {
            due("a row", x.sheet(k, k % 3, 1), 1);
            due("a number", x.put(k, 0, 10 + k), 1);
        }
        for (int k = 0; k < 4; k++) {
            due("each has its own", x.cell(k, 0, k % 3), 10 + k);
        }
        due("no fifth", x.sheet(4, 0, 1), UNKNOWN);
        due("none ahead of sheet 0", x.sheet(-1, 0, 1), UNKNOWN);
    }

    private static void rowsOfAllLengths() {
        for (int n = 0; n <= 60; n++) {
            WeatherPass x = new WeatherPass();
            due("a row of 60", x.sheet(2, INTS, 60), 1);
            for (int i = 0; i < 60; i++) {
                due("full", x.put(2, i, -1 - i), 1);
            }
            due("a row of " + n, x.sheet(2, n % 3, n), 1);
            for (int i = 0; i < n; i++) {
                due("0 at first", x.cell(2, i, n % 3), 0);
            }
            due("the last cell", x.put(2, n - 1, 7), n == 0 ? INDEX : 1);
            due("none behind it", x.put(2, n, 7), INDEX);
            due("a row of 60 again", x.sheet(2, INTS, 60), 1);
            for (int i = 0; i < 60; i++) {
                due("0 at first", x.cell(2, i, INTS), 0);
            }
        }
        due("61", new WeatherPass().sheet(2, INTS, 61), OUTSIDE);
    }

    private static void lanes() {
        int[][] cut = {{44, 112}, {300, 4464}, {300, 70000}};
        for (int lane = 0; lane < 3; lane++) {
            WeatherPass x = new WeatherPass();
            due("a row", x.sheet(0, lane, 1), 1);
            due("a number", x.put(0, 0, 300), 1);
            due("by its lane", x.cell(0, 0, lane), cut[lane][0]);
            due("a number", x.put(0, 0, 70000), 1);
            due("by its lane", x.cell(0, 0, lane), cut[lane][1]);
            for (int other = 0; other < 3; other++) {
                due("of no other lane", x.cell(0, 0, other) == LOST ? 1 : 0, other == lane ? 0 : 1);
            }
        }
        due("no fourth", new WeatherPass().sheet(0, 3, 1), OUTSIDE);
    }

    private static void cutToLanes() {
        for (int v : CUT) {
            WeatherPass x = new WeatherPass();
            for (int lane = 0; lane < 3; lane++) {
                writeRow(x, lane, lane, 77, v, 77);
            }
            due(v + " as a byte", x.cell(0, 1, BYTES), Math.floorMod(v + 128L, 256) - 128);
            due(v + " as a short", x.cell(1, 1, SHORTS), Math.floorMod(v + 32768L, 65536) - 32768);
            due(v + " as an int", x.cell(2, 1, INTS), v);
            for (int lane = 0; lane < 3; lane++) {
                due("the cells beside it", x.cell(lane, 0, lane) + x.cell(lane, 2, lane), 154);
            }
        }
    }

    // ---- promises 22 to 24

    private static void newRow() {
        WeatherPass x = ofTwoRows(BYTES);
        due("the same again", x.sheet(0, BYTES, 5), 1);
        holds(x, 0, BYTES, 0, 0, 0, 0, 0);
        holds(x, 1, BYTES, 7, 8, 9);
        due("longer", x.sheet(1, SHORTS, 4), 1);
        holds(x, 1, SHORTS, 0, 0, 0, 0);
        due("shorter", x.sheet(1, INTS, 1), 1);
        holds(x, 1, INTS, 0);
        due("of none", x.sheet(1, BYTES, 0), 1);
        holds(x, 1, BYTES);
        due("of 60", x.sheet(1, BYTES, 60), 1);
        due("its last cell", x.put(1, 59, 1), 1);
        due("where there was nothing", x.sheet(3, INTS, 1), 1);
        holds(x, 3, INTS, 0);
        x = furnished();
        due("a new row for the text", x.sheet(0, SHORTS, 28), 1);
        due("fault", x.fault(), 0);
        due("the land stays", x.many(1), 4);
    }

    private static void above60() {
        for (int n : new int[] {61, 62, 60 + 256, 60 + 65536, 1 << 30, Integer.MAX_VALUE - 60, Integer.MAX_VALUE}) {
            refusedOfFaults("n " + n, x -> x.sheet(0, SHORTS, n), OUTSIDE);
        }
        for (int lane = 0; lane < 3; lane++) {
            WeatherPass x = new WeatherPass();
            due("60", x.sheet(0, lane, 60), 1);
            due("61", x.sheet(0, lane, 61), OUTSIDE);
            due("it has still 60", x.put(0, 59, 1), 1);
        }
    }

    private static void below0() {
        for (int n : new int[] {-1, -2, -60, -61, -256, Integer.MIN_VALUE + 60, Integer.MIN_VALUE}) {
            faulted("n " + n, x -> x.sheet(0, SHORTS, n), SIZE);
            stays(WeatherPass::new, "where there is nothing", x -> x.sheet(0, SHORTS, n), SIZE, 4);
        }
        WeatherPass x = new WeatherPass();
        due("0", x.sheet(0, SHORTS, 0), 1);
        due("fault", x.fault(), 0);
    }

    private static void sheetOrder() {
        refusedOfFaults("UNKNOWN ahead of lane", x -> x.sheet(4, 3, 0), UNKNOWN);
        refusedOfFaults("UNKNOWN ahead of n above 60", x -> x.sheet(-1, 0, 61), UNKNOWN);
        refusedOfFaults("UNKNOWN ahead of SIZE", x -> x.sheet(4, 0, -1), UNKNOWN);
        refusedOfFaults("OUTSIDE ahead of SIZE", x -> x.sheet(0, 3, -1), OUTSIDE);
        refusedOfFaults("OUTSIDE ahead of SIZE", x -> x.sheet(0, -1, Integer.MIN_VALUE), OUTSIDE);
        refusedOfFaults("OUTSIDE of both", x -> x.sheet(0, 3, 61), OUTSIDE);
    }

    private static void loseAll() {
        for (int k = 0; k < 4; k++) {
            WeatherPass x = new WeatherPass();
            due("nothing", x.lose(k), 0);
            due("a row of no cells", x.sheet(k, INTS, 0), 1);
            due("is something", x.lose(k), 1);
            due("a row", x.sheet(k, k % 3, 60), 1);
            due("is something", x.lose(k), 1);
            due("nothing again", x.lose(k), 0);
            due("no cells", x.put(k, 0, 1), NULL);
            due("of no lane", x.cell(k, 0, (k + 1) % 3), LOST);
            due("nothing is no CAST", x.fault(), 1);
            due("a row again", x.sheet(k, INTS, 1), 1);
            holds(x, k, INTS, 0);
        }
        WeatherPass x = furnished();
        due("lose", x.lose(0), 1);
        due("fault() is of calls that name faults", x.fault(), 1);
        due("the land stays", x.many(1), 4);
        due("other sheets stay", x.cell(1, 1, INTS), 7);
        stays(Bench::furnished, "nothing of nothing", y -> y.lose(3), 0, 1);
    }

    private static void cellBecomes() {
        WeatherPass x = ofTwoRows(INTS);
        due("the first", x.put(0, 0, -9), 1);
        due("the last", x.put(0, 4, 99), 1);
        holds(x, 0, INTS, -9, 2, 3, 4, 99);
        holds(x, 1, INTS, 7, 8, 9);
        due("a row of 60", x.sheet(3, SHORTS, 60), 1);
        due("the last", x.put(3, 59, 5), 1);
        due("it is", x.cell(3, 59, SHORTS), 5);
        due("and becomes again", x.put(3, 59, 6), 1);
        due("it is", x.cell(3, 59, SHORTS), 6);
        due("fault", x.fault(), 0);
    }

    private static void putBeyond() {
        for (int i : beyond(0, 27)) {
            faulted("cell " + i, x -> x.put(0, i, 9), INDEX);
        }
        for (int n : new int[] {0, 1, 2, 59, 60}) {
            WeatherPass x = new WeatherPass();
            due("a row", x.sheet(0, BYTES, n), 1);
            due("the last", x.put(0, n - 1, 1), n == 0 ? INDEX : 1);
            due("one more", x.put(0, n, 1), INDEX);
            due("-1", x.put(0, -1, 1), INDEX);
        }
    }

    // ---- promise 25

    private static void cellsOfRows() {
        for (int k = 0; k < 4; k++) {
            for (int lane = 0; lane < 3; lane++) {
                WeatherPass x = new WeatherPass();
                due("a row", x.sheet(k, lane, 60), 1);
                due("the first", x.put(k, 0, -5), 1);
                due("the last", x.put(k, 59, 6), 1);
                due("the first", x.cell(k, 0, lane), -5);
                due("the last", x.cell(k, 59, lane), 6);
                due("one between", x.cell(k, 30, lane), 0);
                due("fault", x.fault(), 0);
                due("one more", x.cell(k, 60, lane), LOST);
                due("fault", x.fault(), 3);
            }
        }
        stays(Bench::furnished, "a cell", x -> x.cell(1, 5, INTS), -1, 0);
        WeatherPass x = new WeatherPass();
        writeRow(x, 0, INTS, Integer.MIN_VALUE, Integer.MAX_VALUE);
        due("the least int is not LOST", x.cell(0, 0, INTS), Integer.MIN_VALUE);
        due("the greatest", x.cell(0, 1, INTS), Integer.MAX_VALUE);
    }

    private static void cellCastAndNull() {
        lostBy("bytes, not shorts", x -> x.cell(0, 0, BYTES), CAST);
        lostBy("ints, not shorts", x -> x.cell(0, 0, INTS), CAST);
        lostBy("bytes, not ints", x -> x.cell(1, 0, BYTES), CAST);
        lostBy("shorts, not ints", x -> x.cell(1, 0, SHORTS), CAST);
        lostBy("shorts, not bytes", x -> x.cell(2, 0, SHORTS), CAST);
        lostBy("ints, not bytes", x -> x.cell(2, 0, INTS), CAST);
        for (int lane = 0; lane < 3; lane++) {
            int asLane = lane;
            lostBy("nothing is no CAST", x -> x.cell(3, 0, asLane), NULL);
            stays(WeatherPass::new, "at first", x -> x.cell(0, 0, asLane), LOST, 1);
        }
    }

    private static void cellBeyond() {
        for (int i : beyond(0, 5)) {
            lostBy("cell " + i, x -> x.cell(1, i, INTS), INDEX);
        }
        for (int i : beyond(0, 27)) {
            lostBy("cell " + i, x -> x.cell(0, i, SHORTS), INDEX);
        }
        WeatherPass x = new WeatherPass();
        due("a row of no cells", x.sheet(0, BYTES, 0), 1);
        due("cell 0", x.cell(0, 0, BYTES), LOST);
        due("fault", x.fault(), 3);
    }

    private static void cellOrder() {
        refusedOfFaults("UNKNOWN ahead of all", x -> x.cell(4, -1, 3), LOST);
        refusedOfFaults("OUTSIDE ahead of NULL", x -> x.cell(3, 0, 3), LOST);
        refusedOfFaults("OUTSIDE ahead of INDEX", x -> x.cell(0, -1, -1), LOST);
        lostBy("NULL ahead of INDEX", x -> x.cell(3, -1, 0), NULL);
        lostBy("CAST ahead of INDEX", x -> x.cell(0, 28, 2), CAST);
    }

    // ---- promise 26

    private static void copyToAnother() {
        for (int lane = 0; lane < 3; lane++) {
            WeatherPass x = ofTwoRows(lane);
            due("three", x.copy(0, 1, 1, 0, 3), 3);
            holds(x, 1, lane, 2, 3, 4);
            due("one, the last to the last", x.copy(0, 4, 1, 2, 1), 1);
            holds(x, 1, lane, 2, 3, 5);
            holds(x, 0, lane, 1, 2, 3, 4, 5);
            due("back", x.copy(1, 0, 0, 2, 3), 3);
            holds(x, 0, lane, 1, 2, 2, 3, 5);
            due("none", x.copy(0, 0, 1, 0, 0), 0);
            due("none, at the ends", x.copy(0, 5, 1, 3, 0), 0);
            due("fault", x.fault(), 0);
            holds(x, 1, lane, 2, 3, 5);
        }
        WeatherPass x = new WeatherPass();
        due("60", x.sheet(3, INTS, 60) + x.sheet(2, INTS, 60), 2);
        due("the last", x.put(3, 59, Integer.MIN_VALUE), 1);
        due("all 60", x.copy(3, 0, 2, 0, 60), 60);
        due("the last", x.cell(2, 59, INTS), Integer.MIN_VALUE);
        due("they are its own", x.put(3, 59, 1), 1);
        due("the last", x.cell(2, 59, INTS), Integer.MIN_VALUE);
    }

    private static void copyToTheSame() {
        for (int lane = 0; lane < 3; lane++) {
            WeatherPass x = ofTwoRows(lane);
            due("up", x.copy(0, 0, 0, 1, 4), 4);
            holds(x, 0, lane, 1, 1, 2, 3, 4);
            due("down", x.copy(0, 1, 0, 0, 4), 4);
            holds(x, 0, lane, 1, 2, 3, 4, 4);
            due("up by two", x.copy(0, 0, 0, 2, 3), 3);
            holds(x, 0, lane, 1, 2, 1, 2, 3);
            due("to where they are", x.copy(0, 0, 0, 0, 5), 5);
            holds(x, 0, lane, 1, 2, 1, 2, 3);
        }
    }

    private static void copyOfNoSheet() {
        refusedOfFaultsEach("first", beyond(0, 3), (x, k) -> x.copy(k, 0, 0, 0, 1), UNKNOWN);
        refusedOfFaultsEach("other", beyond(0, 3), (x, k) -> x.copy(0, 0, k, 0, 1), UNKNOWN);
        WeatherPass x = new WeatherPass();
        writeRow(x, 3, BYTES, 5);
        due("the last", x.copy(3, 0, 3, 0, 1), 1);
    }

    private static void copyOfNothing() {
        faulted("the first", x -> x.copy(3, 0, 0, 0, 1), NULL);
        faulted("the other", x -> x.copy(0, 0, 3, 0, 1), NULL);
        faulted("both", x -> x.copy(3, 0, 3, 0, 0), NULL);
        faulted("no cells of the first", x -> x.copy(3, 0, 0, 0, 0), NULL);
        faulted("no cells of the other", x -> x.copy(0, 0, 3, 0, 0), NULL);
    }

    private static void copyToOtherLanes() {
        for (int k = 0; k < 3; k++) {
            int first = k;
            faulted("to the next", x -> x.copy(first, 0, (first + 1) % 3, 0, 1), CAST);
            faulted("to the one behind it", x -> x.copy(first, 0, (first + 2) % 3, 0, 1), CAST);
            faulted("no cells", x -> x.copy(first, 0, (first + 1) % 3, 0, 0), CAST);
        }
    }

    private static void copyBeyond() {
        int most = Integer.MAX_VALUE;
        int least = Integer.MIN_VALUE;
        int[][] beyond = {{-1, 0, 1}, {0, -1, 1}, {0, 0, -1}, {6, 0, 0}, {0, 4, 0}, {0, 0, 4}, {0, 0, 6}, {3, 0, 3},
            {5, 0, 1}, {0, 1, 3}, {0, 3, 1}, {-1, 0, 0}, {0, -1, 0}, {-1, 0, 3}, {0, -1, 3}, {1, 1, most},
            {most, 0, 1}, {0, most, 1}, {most, most, most}, {0, 0, least}, {least, 0, most}, {0, least, most},
            {least, 0, 0}, {0, least, 0}, {most, 0, 0}, {0, most, 0}, {5, 3, -1}, {1, 1, -1}};
        for (int[] c : beyond) {
            WeatherPass x = ofTwoRows(SHORTS);
            due(c[2] + " from " + c[0] + " on to " + c[1], x.copy(0, c[0], 1, c[1], c[2]), INDEX);
            due("fault", x.fault(), 3);
            holds(x, 0, SHORTS, 1, 2, 3, 4, 5);
            holds(x, 1, SHORTS, 7, 8, 9);
        }
        faulted("beyond the end", x -> x.copy(1, 3, 1, 0, 4), INDEX);
        faulted("beyond the end of the same", x -> x.copy(1, 0, 1, 3, 4), INDEX);
        WeatherPass x = new WeatherPass();
        due("a row of no cells", x.sheet(0, BYTES, 0), 1);
        due("none", x.copy(0, 0, 0, 0, 0), 0);
        due("one", x.copy(0, 0, 0, 0, 1), INDEX);
        due("from 1 on", x.copy(0, 1, 0, 0, 0), INDEX);
        due("to 1 on", x.copy(0, 0, 0, 1, 0), INDEX);
    }

    private static void copyOrder() {
        refusedOfFaults("UNKNOWN ahead of NULL", x -> x.copy(3, 0, 4, 0, 1), UNKNOWN);
        refusedOfFaults("UNKNOWN ahead of NULL, turned", x -> x.copy(4, 0, 3, 0, 1), UNKNOWN);
        refusedOfFaults("UNKNOWN ahead of INDEX", x -> x.copy(0, -1, -1, 0, 1), UNKNOWN);
        faulted("NULL ahead of INDEX", x -> x.copy(3, -1, 0, 0, 1), NULL);
        faulted("NULL of the other ahead of INDEX", x -> x.copy(0, -1, 3, 0, -1), NULL);
        faulted("CAST ahead of INDEX: i", x -> x.copy(0, -1, 1, 0, 1), CAST);
        faulted("CAST ahead of INDEX: j", x -> x.copy(0, 0, 1, 99, 1), CAST);
        faulted("CAST ahead of INDEX: n", x -> x.copy(0, 0, 1, 0, -1), CAST);
    }
}
