/** Promises 26 to 36: sheets, telling, kinds, the latest fault, how many. */
public final class SheetsTest {
    private static final Due due = new Due("SheetsTest");
    private static final int MAX = Integer.MAX_VALUE;
    private static final int MIN = Integer.MIN_VALUE;

    public static void main(String[] args) {
        sheet();
        lose();
        put();
        cell();
        copy();
        copyRefused();
        tell();
        light();
        as();
        fault();
        many();
        due.end();
    }

    private static void sheet() {
        SnowInns x = new SnowInns();
        due.is("sheet(4, 3, 61)", x.sheet(4, 3, 61), -1);
        due.is("sheet(-1, 0, 0)", x.sheet(-1, 0, 0), -1);
        due.is("sheet(0, 3, -1)", x.sheet(0, 3, -1), -2);
        due.is("sheet(0, -1, -1)", x.sheet(0, -1, -1), -2);
        due.is("sheet(0, 0, 61)", x.sheet(0, 0, 61), -2);
        due.is("its fault()", x.fault(), 0);
        due.is("sheet(0, 0, -1)", x.sheet(0, 0, -1), -14);
        due.is("its fault()", x.fault(), 4);
        due.is("sheet(0, 0, MIN)", x.sheet(0, 0, MIN), -14);
        due.is("still nothing", x.lose(0), 0);
        due.is("sheet(3, 2, 60)", x.sheet(3, 2, 60), 1);
        due.is("its fault()", x.fault(), 0);
        due.is("put(3, 59, 7)", x.put(3, 59, 7), 1);
        due.is("put(3, 0, 8)", x.put(3, 0, 8), 1);
        due.is("sheet(3, 2, -5)", x.sheet(3, 2, -5), -14);
        due.is("the row that was there stays", x.cell(3, 59, 2), 7);
        due.is("a new row", x.sheet(3, 1, 60), 1);
        for (int i = 0; i < 60; i++) {
            due.is("has 0 in all cells", x.cell(3, i, 1), 0);
        }
        due.is("a row of no cells", x.sheet(3, 0, 0), 1);
        due.is("cell(3, 0, 0)", x.cell(3, 0, 0), SnowInns.LOST);
        due.is("its fault()", x.fault(), 3);
        due.is("is a row", x.lose(3), 1);
    }

    private static void lose() {
        SnowInns x = new SnowInns();
        due.is("lose(4)", x.lose(4), -1);
        due.is("lose(-1)", x.lose(-1), -1);
        due.is("lose(2) of nothing", x.lose(2), 0);
        x.sheet(2, 0, 3);
        x.put(2, 9, 1);
        due.is("lose(2)", x.lose(2), 1);
        due.is("lose names no FAULT", x.fault(), 3);
        due.is("lose(2) again", x.lose(2), 0);
        due.is("put(2, 0, 1)", x.put(2, 0, 1), -11);
    }

    private static void put() {
        SnowInns x = new SnowInns();
        due.is("put(4, 0, 0)", x.put(4, 0, 0), -1);
        due.is("put(-1, 0, 0)", x.put(-1, 0, 0), -1);
        due.is("put(0, -1, 0)", x.put(0, -1, 0), -11);
        due.is("its fault()", x.fault(), 1);
        for (int lane = 0; lane < 3; lane++) {
            x.sheet(lane, lane, 5);
        }
        due.is("put(0, -1, 0)", x.put(0, -1, 0), -13);
        due.is("put(0, 5, 0)", x.put(0, 5, 0), -13);
        due.is("put(0, MAX, 0)", x.put(0, MAX, 0), -13);
        due.is("its fault()", x.fault(), 3);
        due.is("put(0, 4, 0)", x.put(0, 4, 0), 1);
        due.is("its fault()", x.fault(), 0);
        int[] values = {127, 128, -129, 32768, MIN};
        long[][] want = {{127, -128, 127, 0, 0}, {127, 128, -129, -32768, 0}, {127, 128, -129, 32768, MIN}};
        for (int lane = 0; lane < 3; lane++) {
            for (int i = 0; i < values.length; i++) {
                due.is("put(" + lane + ", " + i + ", " + values[i] + ")", x.put(lane, i, values[i]), 1);
                due.is("cut to its LANE", x.cell(lane, i, lane), want[lane][i]);
            }
        }
    }

    private static void cellLost(SnowInns x, int k, int i, int lane, int fault) {
        String call = "cell(" + k + ", " + i + ", " + lane + ")";
        due.is(call, x.cell(k, i, lane), SnowInns.LOST);
        due.is(call + ": fault()", x.fault(), fault);
    }

    private static void cell() {
        SnowInns x = new SnowInns();
        x.sheet(1, 1, 5);
        x.put(1, 0, 9);
        cellLost(x, 4, 0, 3, 0);
        cellLost(x, -1, 0, 0, 0);
        cellLost(x, 1, 0, 3, 0);
        cellLost(x, 1, 0, -1, 0);
        cellLost(x, 1, 9, 0, 2);
        cellLost(x, 1, 9, 2, 2);
        cellLost(x, 0, 9, 2, 1);
        cellLost(x, 1, 5, 1, 3);
        cellLost(x, 1, -1, 1, 3);
        cellLost(x, 4, 0, 1, 0);
        due.is("cell(1, 0, 1)", x.cell(1, 0, 1), 9);
        due.is("its fault()", x.fault(), 0);
        due.is("cell(1, 4, 1)", x.cell(1, 4, 1), 0);
    }

    private static void cells(SnowInns x, int sheet, int lane, int... want) {
        for (int i = 0; i < want.length; i++) {
            due.is("cell(" + sheet + ", " + i + ", " + lane + ")", x.cell(sheet, i, lane), want[i]);
        }
    }

    private static void copy() {
        SnowInns x = new SnowInns();
        x.sheet(0, 1, 5);
        x.sheet(1, 1, 4);
        for (int i = 0; i < 5; i++) {
            x.put(0, i, 10 + i);
        }
        due.is("copy(0, 2, 1, 1, 3)", x.copy(0, 2, 1, 1, 3), 3);
        cells(x, 1, 1, 0, 12, 13, 14);
        due.is("up in itself", x.copy(0, 0, 0, 1, 4), 4);
        cells(x, 0, 1, 10, 10, 11, 12, 13);
        due.is("down in itself", x.copy(0, 2, 0, 0, 3), 3);
        cells(x, 0, 1, 11, 12, 13, 12, 13);
        due.is("no cells, at the ends", x.copy(0, 5, 1, 4, 0), 0);
        due.is("its fault()", x.fault(), 0);
    }

    private static void copyRefused() {
        SnowInns x = new SnowInns();
        x.sheet(0, 1, 5);
        x.sheet(1, 1, 4);
        x.sheet(2, 2, 4);
        x.put(0, 0, 6);
        due.is("copy(4, 0, 3, 0, 0)", x.copy(4, 0, 3, 0, 0), -1);
        due.is("copy(3, 0, 4, 0, 0)", x.copy(3, 0, 4, 0, 0), -1);
        due.is("copy(-1, 0, 0, 0, 0)", x.copy(-1, 0, 0, 0, 0), -1);
        due.is("copy(0, 0, -1, 0, 0)", x.copy(0, 0, -1, 0, 0), -1);
        due.is("copy(3, -1, 0, -1, -1)", x.copy(3, -1, 0, -1, -1), -11);
        due.is("copy(0, -1, 3, -1, -1)", x.copy(0, -1, 3, -1, -1), -11);
        due.is("its fault()", x.fault(), 1);
        due.is("copy(0, -1, 2, -1, -1)", x.copy(0, -1, 2, -1, -1), -12);
        due.is("its fault()", x.fault(), 2);
        int[][] beyond = {{-1, 0, 0}, {0, -1, 0}, {0, 0, -1}, {6, 0, 0}, {0, 5, 0}, {0, 0, 5}, {3, 0, 3},
            {0, 2, 3}, {1, 0, MAX}, {MAX, 0, 1}, {0, MAX, MAX}, {MIN, 0, MIN}};
        for (int[] b : beyond) {
            String call = "copy(0, " + b[0] + ", 1, " + b[1] + ", " + b[2] + ")";
            due.is(call, x.copy(0, b[0], 1, b[1], b[2]), -13);
            due.is(call + ": fault()", x.fault(), 3);
        }
        cells(x, 1, 1, 0, 0, 0, 0);
    }

    private static int trace(int from, int... bodies) {
        int trace = from;
        for (int body : bodies) {
            trace = trace * 31 + body;
        }
        return trace;
    }

    private static void tell() {
        SnowInns x = Due.told("i,n3,l4,c5;>0+00");
        due.is("tell(0)", x.tell(0), 3);
        int trace = trace(0, 1);
        due.is("its trace()", x.trace(), trace);
        due.is("tell(1)", x.tell(1), 104);
        trace = trace(trace, 2, 1);
        due.is("its trace()", x.trace(), trace);
        due.is("tell(2)", x.tell(2), 110);
        trace = trace(trace, 3, 2, 1, 1);
        due.is("its trace()", x.trace(), trace);
        due.is("tell(3)", x.tell(3), -1);
        due.is("tell(-1)", x.tell(-1), -1);
        due.is("refused: trace()", x.trace(), trace);
        x.sweep(0, true, 2);
        due.is("swept: tell(0)", x.tell(0), 1);
        due.is("swept: tell(1)", x.tell(1), 106);
        trace = trace(trace, 1, 2, 1);
        for (int i = 0; i < 20; i++) {
            due.is("tell(2)", x.tell(2), 110);
            trace = trace(trace, 3, 2, 1, 1);
        }
        due.is("an int that wraps: trace()", x.trace(), trace);
        due.is("no ridge: tell(0)", new SnowInns().tell(0), -1);
        SnowInns castle = Due.told("i,c9,n0;>0+00");
        due.is("tell(0) of a CASTLE", castle.tell(0), 118);
        due.is("trace() of a CASTLE", castle.trace(), 91327);
    }

    private static void light() {
        SnowInns x = Due.told("i,n3,l4,c5,l0;>0+00");
        due.is("light(0)", x.light(0), 0);
        due.is("light(1)", x.light(1), 1);
        due.is("light(2)", x.light(2), 80);
        due.is("light(3)", x.light(3), 3);
        due.is("light(4)", x.light(4), -1);
        due.is("light(-1)", x.light(-1), -1);
        due.is("trace()", x.trace(), trace(0, 4, 4, 5, 4));
        due.is("no ridge: light(0)", new SnowInns().light(0), -1);
    }

    private static void as() {
        SnowInns x = Due.told("i,n3,l4,c5;>0+00");
        for (int k = 0; k < 3; k++) {
            for (int kind = 0; kind < 3; kind++) {
                String call = "as(" + k + ", " + kind + ")";
                due.is(call, x.as(k, kind), kind <= k ? 1 : -12);
                due.is(call + ": fault()", x.fault(), kind <= k ? 0 : 2);
            }
        }
        x.as(0, 2);
        due.is("as(3, 3)", x.as(3, 3), -1);
        due.is("its fault()", x.fault(), 0);
        due.is("as(-1, 0)", x.as(-1, 0), -1);
        x.as(0, 2);
        due.is("as(0, 3)", x.as(0, 3), -2);
        due.is("its fault()", x.fault(), 0);
        due.is("as(0, -1)", x.as(0, -1), -2);
        due.is("no ridge: as(0, 0)", new SnowInns().as(0, 0), -1);
    }

    /** Calls that name no FAULT leave the latest one as it is; those that do begin it anew. */
    private static void fault() {
        SnowInns x = Due.told("i,n3,l4,c5;>0+00");
        x.as(0, 1);
        x.ofInn(9, 0);
        x.ofGuest(0, 0);
        x.ofNight(0, 0);
        x.rule(0);
        x.fall(0, 0);
        x.gust(0, false);
        x.lodge(0, 0);
        x.sweep(0, true, 0);
        x.where(0, 0);
        x.deep(0, 0);
        x.beds(0, 0);
        x.meet(0);
        x.least(0, 0);
        x.turn(0, 0);
        x.corks(0);
        x.reading(0, 0, 0);
        x.back(1);
        x.rules();
        x.kinds(0);
        x.depths(0);
        x.falls(0);
        x.odds(0, 0, 0);
        x.lose(9);
        x.lose(0);
        x.tell(0);
        x.light(0);
        x.trace();
        x.many(9);
        due.is("fault() stays", x.fault(), 2);
        due.is("fault() again", x.fault(), 2);
        x.sheet(9, 0, 0);
        due.is("a refused sheet", x.fault(), 0);
        x.as(0, 1);
        x.put(9, 0, 0);
        due.is("a refused put", x.fault(), 0);
        x.as(0, 1);
        x.cell(9, 0, 0);
        due.is("a refused cell", x.fault(), 0);
        x.as(0, 1);
        x.copy(9, 0, 0, 0, 0);
        due.is("a refused copy", x.fault(), 0);
        x.as(0, 1);
        x.list(0, 9, 0, 0, 0);
        due.is("a refused list", x.fault(), 0);
        x.as(0, 1);
        x.ridge(9, 0, 0, 0);
        due.is("a refused ridge", x.fault(), 0);
    }

    private static void many() {
        SnowInns x = Due.told("i,n3,l4,c5;>0<0>0<0+00+01");
        x.rule(1);
        for (int r = 0; r < 6; r++) {
            x.reading(0, 0, 0);
        }
        int[] want = {3, 4, 2, 1, 6};
        for (int what = 0; what < 5; what++) {
            due.is("many(" + what + ")", x.many(what), want[what]);
        }
        due.is("many(5)", x.many(5), -2);
        due.is("many(-1)", x.many(-1), -2);
        due.is("no ridge: many(5)", new SnowInns().many(5), -2);
    }
}
