/**
 * Two objects that stand, one with a ridge, one without, and what can be seen of them: a call that
 * is refused, or comes to a FAULT, must leave all of it as it was, but for what fault() tells.
 *
 * The ridge: 3 INNS, 3 NIGHTS, 4 GUESTS of FAMILIES 0, 0, 1, 3. The sheets: 5 bytes, 4 shorts,
 * 6 ints, nothing.
 */
final class Stand {
    private static final String TEXT = "i,n2,l1,c0;>2<1>4+00+00+11+32";

    private Stand() {
    }

    private static SnowInns withSheets() {
        SnowInns x = new SnowInns();
        int[] lengths = {5, 4, 6};
        for (int k = 0; k < 3; k++) {
            x.sheet(k, k, lengths[k]);
            for (int i = 0; i < lengths[k]; i++) {
                x.put(k, i, 20 * k + i + 1);
            }
        }
        return x;
    }

    static SnowInns withoutRidge(String lastCall) {
        SnowInns x = withSheets();
        new Call(lastCall).on(x);
        return x;
    }

    static SnowInns withRidge(String lastCall) {
        SnowInns x = withSheets();
        Due.tell(x, TEXT);
        x.lose(3);
        x.rule(1);
        x.reading(0, 1, 0);
        x.reading(3, 2, 1);
        x.tell(2);
        x.light(1);
        new Call(lastCall).on(x);
        return x;
    }

    /** With the ridge, the call is refused, whatever the FAULT was ahead of it. */
    static void refuses(String call, long want) {
        leaves(call, want, 0, true);
    }

    /** Without a ridge, the call is refused. */
    static void bareRefuses(String call, long want) {
        leaves(call, want, 0, false);
    }

    /** With the ridge, the call comes to a FAULT. */
    static void faults(String call, int fault) {
        leaves(call, answerOf(call, fault), fault, true);
    }

    /** Without a ridge, the call comes to a FAULT. */
    static void bareFaults(String call, int fault) {
        leaves(call, answerOf(call, fault), fault, false);
    }

    private static long answerOf(String call, int fault) {
        return new Call(call).answersLong() ? SnowInns.LOST : -10 - fault;
    }

    private static void leaves(String text, long want, int fault, boolean hasRidge) {
        // Two FAULTS ahead of it, so that one of them differs from the FAULT that is due.
        leaves(text, want, fault, hasRidge, "put(3, 0, 0)", 1);
        leaves(text, want, fault, hasRidge, "sheet(0, 1, -1)", 4);
    }

    private static void leaves(String text, long want, int fault, boolean hasRidge, String ahead, int faultAhead) {
        Call call = new Call(text);
        SnowInns x = hasRidge ? withRidge(ahead) : withoutRidge(ahead);
        SnowInns untouched = hasRidge ? withRidge(ahead) : withoutRidge(ahead);
        Cases.is(text, call.on(x), want);
        Cases.is(text + ", then fault()", x.fault(), call.namesFaults() ? fault : faultAhead);
        Cases.same(text + ", then all the rest", seen(x), seen(untouched));
    }

    /** All that can be seen of an object but its FAULT; its readings are taken back by it. */
    static String seen(SnowInns x) {
        StringBuilder seen = new StringBuilder("trace ").append(x.trace()).append(", many");
        for (int what = 0; what < 5; what++) {
            seen.append(' ').append(x.many(what));
        }
        inns(x, seen);
        guestsAndNights(x, seen);
        sheets(x, seen);
        readings(x, seen);
        return seen.toString();
    }

    private static void inns(SnowInns x, StringBuilder seen) {
        for (int k = 0; k < x.many(0); k++) {
            seen.append(", inn");
            for (int what = 0; what < 3; what++) {
                seen.append(' ').append(x.ofInn(k, what));
            }
            for (int n = 0; n <= x.many(1); n++) {
                seen.append(' ').append(x.deep(k, n)).append(' ').append(x.beds(k, n));
            }
        }
    }

    private static void guestsAndNights(SnowInns x, StringBuilder seen) {
        for (int g = 0; g < x.many(2); g++) {
            seen.append(", guest ").append(x.ofGuest(g, 0)).append(' ').append(x.ofGuest(g, 1));
        }
        for (int night = 0; night < x.many(1); night++) {
            seen.append(", night ").append(x.ofNight(night, 0)).append(' ').append(x.ofNight(night, 1));
        }
    }

    private static void sheets(SnowInns x, StringBuilder seen) {
        for (int k = 0; k < 4; k++) {
            for (int lane = 0; lane < 3; lane++) {
                seen.append(", sheet").append(k).append(':').append(lane);
                long cell = x.cell(k, 0, lane);
                for (int i = 1; i <= 60 && x.fault() == 0; i++) {
                    seen.append(' ').append(cell);
                    cell = x.cell(k, i, lane);
                }
                seen.append(" fault ").append(x.fault());
            }
        }
    }

    private static void readings(SnowInns x, StringBuilder seen) {
        for (int left = x.many(4); left >= 0; left--) {
            seen.append(", readings ").append(x.rules());
            for (int k = 0; k < x.many(0); k++) {
                seen.append(' ').append(x.kinds(k)).append(' ').append(x.depths(k));
            }
            for (int night = 0; night < x.many(1); night++) {
                seen.append(' ').append(x.falls(night));
            }
            x.back(left > 0 ? 1 : 0);
        }
    }
}
