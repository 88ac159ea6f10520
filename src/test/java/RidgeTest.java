/** Promises 1 to 10: a new object, the text, what it tells and what calls change of it. */
public final class RidgeTest {
    private static final Due due = new Due("RidgeTest");
    private static final String LONGEST =
            "i,c9,l9,n9,c0,l0,n0;>0<1>2<3>4<5>0<1+00+11+22+33+04+15+20+31";
    private static final String SHORTEST = "i,n0,n0;>0+00";

    public static void main(String[] args) {
        newObject();
        withoutRidge();
        textsTaken();
        textsFirstFault();
        textsRefused();
        textNotTakenChangesNothing();
        textTakenMakesAllAnew();
        ofInn();
        ofGuest();
        ofNight();
        rule();
        fall();
        gust();
        lodge();
        sweep();
        due.end();
    }

    private static void newObject() {
        SnowInns x = new SnowInns();
        for (int what = 0; what < 5; what++) {
            due.is("new: many(" + what + ")", x.many(what), 0);
        }
        for (int k = 0; k < 4; k++) {
            due.is("new: lose(" + k + ")", x.lose(k), 0);
        }
        due.is("new: fault()", x.fault(), 0);
        due.is("new: trace()", x.trace(), 0);
    }

    private static void withoutRidge() {
        SnowInns x = new SnowInns();
        due.is("no ridge: ofInn(0, 0)", x.ofInn(0, 0), -1);
        due.is("no ridge: ofGuest(0, 0)", x.ofGuest(0, 0), -1);
        due.is("no ridge: ofNight(9, 9)", x.ofNight(9, 9), -3);
        due.is("no ridge: rule(2)", x.rule(2), -2);
        due.is("no ridge: rule(1)", x.rule(1), -3);
        due.is("no ridge: fall(9, 9)", x.fall(9, 9), -3);
        due.is("no ridge: gust(9, true)", x.gust(9, true), -3);
        due.is("no ridge: lodge(0, 0)", x.lodge(0, 0), -1);
        due.is("no ridge: sweep(0, true, 10)", x.sweep(0, true, 10), -1);
        due.is("no ridge: many(3)", x.many(3), 0);
    }

    private static void taken(String text, int inns, int nights, int guests) {
        SnowInns x = new SnowInns();
        due.is(text, Due.tell(x, text), guests);
        due.is(text + ": many(0)", x.many(0), inns);
        due.is(text + ": many(1)", x.many(1), nights);
        due.is(text + ": many(2)", x.many(2), guests);
    }

    private static void textsTaken() {
        taken(SHORTEST, 2, 1, 1);
        taken(LONGEST, 6, 8, 8);
        taken("i,l3,c9,n0;<5>0+32+01", 3, 2, 2);
        SnowInns x = new SnowInns();
        x.sheet(2, 2, 20);
        Due.write(x, 2, 7, SHORTEST);
        due.is("from 7 on, as ints", x.ridge(2, 2, 7, 13), 1);
        x.sheet(1, 1, 13);
        Due.write(x, 1, 0, SHORTEST);
        due.is("as shorts", x.ridge(1, 1, 0, 13), 1);
        due.is("fault() of a text that is taken", x.fault(), 0);
    }

    private static void faulty(String text, int place) {
        SnowInns x = new SnowInns();
        due.is(text, Due.tell(x, text), -100 - place);
        due.is(text + ": fault()", x.fault(), 0);
        due.is(text + ": many(0)", x.many(0), 0);
    }

    private static void textsFirstFault() {
        for (int length = 0; length < SHORTEST.length(); length++) {
            faulty(SHORTEST.substring(0, length), length);
        }
        faulty("n", 0);
        faulty("i;", 1);
        faulty("i,i", 2);
        faulty("i,nn", 3);
        faulty("i,n0;", 4);
        faulty("i,n0,l:", 6);
        faulty("i,n0,l/", 6);
        faulty("i,n0,l5+", 7);
        faulty("i,n0,l5,", 8);
        faulty("i,n0,n0,n0,n0,n0,n0,n0;>0+00", 19);
        faulty("i,n0,n0;+00", 8);
        faulty("i,n0,n0;>6", 9);
        faulty("i,n0,n0;>5,", 10);
        faulty("i,n0,n0;>0<0>0<0>0<0>0<0>0+00", 24);
        faulty("i,n0,n0;>0+40", 11);
        faulty("i,n0,n0;>0+02", 12);
        faulty("i,n0,n0,n0;>0+03", 15);
        faulty("i,n0,n0;>0+00>", 13);
        faulty("i,n0,n0;>0+00 ", 13);
        faulty("i,n0,n0;>0+00+00+00+00+00+00+00+00+00", 34);
        faulty("i,n0,n0,n0,n0,n0,n0;>0+06", 24);
        faulty("I,n0,n0;>0+00", 0);
        SnowInns x = new SnowInns();
        x.sheet(2, 2, 20);
        Due.write(x, 2, 0, SHORTEST);
        x.put(2, 3, 48 + 256);
        due.is("a code beyond a byte", x.ridge(2, 2, 0, 13), -103);
        x.put(2, 3, -48);
        due.is("a code below 0", x.ridge(2, 2, 0, 13), -103);
        x.sheet(2, 2, 20);
        Due.write(x, 2, 5, "i,n0,x");
        due.is("the place counts from i on", x.ridge(2, 2, 5, 6), -105);
        due.is("no code at the end", x.ridge(2, 2, 20, 0), -100);
        x.sheet(2, 2, 20);
        Due.write(x, 2, 0, SHORTEST);
        for (int n = 0; n < 13; n++) {
            due.is("the text ends though the row goes on: " + n, x.ridge(2, 2, 0, n), -100 - n);
        }
    }

    private static void refusedText(SnowInns x, String call, int got, int want, int fault) {
        due.is(call, got, want);
        due.is(call + ": fault()", x.fault(), fault);
    }

    private static void textsRefused() {
        SnowInns x = new SnowInns();
        x.sheet(0, 0, 13);
        Due.write(x, 0, 0, SHORTEST);
        refusedText(x, "ridge(-1, 3, -1, -1)", x.ridge(-1, 3, -1, -1), -1, 0);
        refusedText(x, "ridge(4, 0, 0, 13)", x.ridge(4, 0, 0, 13), -1, 0);
        refusedText(x, "ridge(0, 3, -1, -1)", x.ridge(0, 3, -1, -1), -2, 0);
        refusedText(x, "ridge(0, -1, 0, 13)", x.ridge(0, -1, 0, 13), -2, 0);
        refusedText(x, "ridge(0, 1, -1, -1)", x.ridge(0, 1, -1, -1), -12, 2);
        refusedText(x, "ridge(1, 1, -1, -1)", x.ridge(1, 1, -1, -1), -11, 1);
        refusedText(x, "ridge(0, 0, -1, -1)", x.ridge(0, 0, -1, -1), -14, 4);
        refusedText(x, "ridge(0, 0, -1, 0)", x.ridge(0, 0, -1, 0), -13, 3);
        refusedText(x, "ridge(0, 0, 14, 0)", x.ridge(0, 0, 14, 0), -13, 3);
        refusedText(x, "ridge(0, 0, 0, 14)", x.ridge(0, 0, 0, 14), -13, 3);
        refusedText(x, "ridge(0, 0, 5, MAX)", x.ridge(0, 0, 5, Integer.MAX_VALUE), -13, 3);
        refusedText(x, "ridge(0, 0, MAX, 5)", x.ridge(0, 0, Integer.MAX_VALUE, 5), -13, 3);
        due.is("refused: many(0)", x.many(0), 0);
        refusedText(x, "ridge(0, 0, 0, 13)", x.ridge(0, 0, 0, 13), 1, 0);
    }

    private static void textNotTakenChangesNothing() {
        SnowInns x = Due.told("i,l3,c9,n0;<5>0+32+01");
        x.rule(1);
        x.reading(0, 0, 0);
        due.is("a faulty text", Due.tell(x, "i,n1,n1;>1>1>1+00+00+00+0"), -125);
        due.is("faulty: many(0)", x.many(0), 3);
        due.is("faulty: many(1)", x.many(1), 2);
        due.is("faulty: many(2)", x.many(2), 2);
        due.is("faulty: many(3)", x.many(3), 1);
        due.is("faulty: many(4)", x.many(4), 1);
        due.is("faulty: ofInn(0, 0)", x.ofInn(0, 0), 1);
        due.is("faulty: ofInn(1, 1)", x.ofInn(1, 1), 9);
        due.is("faulty: ofGuest(0, 0)", x.ofGuest(0, 0), 3);
        due.is("faulty: ofNight(0, 0)", x.ofNight(0, 0), 1);
        due.is("faulty: ofNight(0, 1)", x.ofNight(0, 1), 5);
    }

    private static void textTakenMakesAllAnew() {
        SnowInns x = Due.told("i,l3,c9,n0;<5>0+32+01");
        x.rule(1);
        x.reading(0, 0, 0);
        x.tell(0);
        int trace = x.trace();
        due.is("another text", Due.tell(x, SHORTEST), 1);
        due.is("anew: many(0)", x.many(0), 2);
        due.is("anew: many(1)", x.many(1), 1);
        due.is("anew: many(3)", x.many(3), 0);
        due.is("anew: many(4)", x.many(4), 0);
        due.is("anew: trace() goes on", x.trace(), trace);
        due.is("anew: the sheet still has its row", x.cell(3, 0, 0), 'i');
    }

    private static void ofInn() {
        SnowInns x = Due.told("i,n3,l3,c3,n0,l0,c9;>0+00");
        int[][] want = {{0, 3, 3}, {1, 3, 4}, {2, 3, 8}, {0, 0, 0}, {1, 0, 1}, {2, 9, 20}};
        for (int k = 0; k < 6; k++) {
            for (int what = 0; what < 3; what++) {
                due.is("ofInn(" + k + ", " + what + ")", x.ofInn(k, what), want[k][what]);
            }
        }
        due.is("ofInn(6, 9)", x.ofInn(6, 9), -1);
        due.is("ofInn(-1, 0)", x.ofInn(-1, 0), -1);
        due.is("ofInn(0, 3)", x.ofInn(0, 3), -2);
        due.is("ofInn(0, -1)", x.ofInn(0, -1), -2);
    }

    private static void ofGuest() {
        SnowInns x = Due.told("i,n3,l3,c3;>0+32+01");
        due.is("ofGuest(0, 0)", x.ofGuest(0, 0), 3);
        due.is("ofGuest(0, 1)", x.ofGuest(0, 1), 2);
        due.is("ofGuest(1, 0)", x.ofGuest(1, 0), 0);
        due.is("ofGuest(1, 1)", x.ofGuest(1, 1), 1);
        due.is("ofGuest(2, 9)", x.ofGuest(2, 9), -1);
        due.is("ofGuest(-1, 0)", x.ofGuest(-1, 0), -1);
        due.is("ofGuest(0, 2)", x.ofGuest(0, 2), -2);
        due.is("ofGuest(0, -1)", x.ofGuest(0, -1), -2);
    }

    private static void ofNight() {
        SnowInns x = Due.told("i,n3,l3,c3;>1<5+32+01");
        due.is("ofNight(0, 0)", x.ofNight(0, 0), 0);
        due.is("ofNight(0, 1)", x.ofNight(0, 1), 1);
        due.is("ofNight(1, 0)", x.ofNight(1, 0), 1);
        due.is("ofNight(1, 1)", x.ofNight(1, 1), 5);
        due.is("ofNight(2, 0)", x.ofNight(2, 0), -2);
        due.is("ofNight(-1, 0)", x.ofNight(-1, 0), -2);
        due.is("ofNight(0, 2)", x.ofNight(0, 2), -2);
        due.is("ofNight(0, -1)", x.ofNight(0, -1), -2);
    }

    private static void rule() {
        SnowInns x = Due.told(SHORTEST);
        due.is("rule(1)", x.rule(1), 0);
        due.is("rule(1) again", x.rule(1), 1);
        due.is("rule(2)", x.rule(2), -2);
        due.is("rule(-1)", x.rule(-1), -2);
        due.is("many(3)", x.many(3), 1);
        due.is("rule(0)", x.rule(0), 1);
        due.is("many(3)", x.many(3), 0);
    }

    private static void fall() {
        SnowInns x = Due.told("i,n3,l3;>1<5+00");
        due.is("fall(0, 5)", x.fall(0, 5), 1);
        due.is("fall(1, 0)", x.fall(1, 0), 5);
        due.is("fall(0, 6)", x.fall(0, 6), -2);
        due.is("fall(0, -1)", x.fall(0, -1), -2);
        due.is("fall(2, 0)", x.fall(2, 0), -2);
        due.is("fall(-1, 0)", x.fall(-1, 0), -2);
        due.is("ofNight(0, 1)", x.ofNight(0, 1), 5);
        due.is("ofNight(1, 1)", x.ofNight(1, 1), 0);
    }

    private static void gust() {
        SnowInns x = Due.told("i,n3,l3;>1<5+00");
        due.is("gust(0, false)", x.gust(0, false), 0);
        due.is("gust(0, true)", x.gust(0, true), 1);
        due.is("gust(0, true) again", x.gust(0, true), 0);
        due.is("ofNight(0, 0)", x.ofNight(0, 0), 1);
        due.is("gust(1, false)", x.gust(1, false), 1);
        due.is("ofNight(1, 0)", x.ofNight(1, 0), 0);
        due.is("gust(2, true)", x.gust(2, true), -2);
        due.is("gust(-1, true)", x.gust(-1, true), -2);
    }

    private static void lodge() {
        SnowInns x = Due.told("i,n3,l3,n0;>1<5+02+01");
        due.is("lodge(0, 0)", x.lodge(0, 0), 2);
        due.is("lodge(0, 1)", x.lodge(0, 1), 0);
        due.is("ofGuest(0, 1)", x.ofGuest(0, 1), 1);
        due.is("where(0, 0)", x.where(0, 0), 1);
        due.is("lodge(0, 3)", x.lodge(0, 3), -1);
        due.is("lodge(0, -1)", x.lodge(0, -1), -1);
        due.is("lodge(2, 0)", x.lodge(2, 0), -1);
        due.is("lodge(-1, 0)", x.lodge(-1, 0), -1);
        due.is("ofGuest(1, 1)", x.ofGuest(1, 1), 1);
    }

    private static void sweep() {
        SnowInns x = Due.told("i,n5,l8,n3;>1<5+02+01");
        due.is("sweep(0, true, 2): one is lost", x.sweep(0, true, 2), 1);
        due.is("ofInn(0, 1)", x.ofInn(0, 1), 3);
        due.is("ofInn(1, 1)", x.ofInn(1, 1), 9);
        due.is("sweep(0, false, 0)", x.sweep(0, false, 0), -1);
        due.is("sweep(2, true, 10)", x.sweep(2, true, 10), -1);
        due.is("sweep(3, false, 1)", x.sweep(3, false, 1), -1);
        due.is("sweep(-1, true, 1)", x.sweep(-1, true, 1), -1);
        due.is("sweep(MAX, true, 1)", x.sweep(Integer.MAX_VALUE, true, 1), -1);
        due.is("sweep(MIN, false, 1)", x.sweep(Integer.MIN_VALUE, false, 1), -1);
        due.is("sweep(1, true, 10)", x.sweep(1, true, 10), -2);
        due.is("sweep(1, true, -1)", x.sweep(1, true, -1), -2);
        due.is("sweep(1, true, 0)", x.sweep(1, true, 0), 0);
        due.is("sweep(2, false, 9): all are lost", x.sweep(2, false, 9), 0);
        due.is("ofInn(2, 1)", x.ofInn(2, 1), 0);
        due.is("sweep(1, true, 4)", x.sweep(1, true, 4), 4);
        due.is("ofInn(1, 1)", x.ofInn(1, 1), 5);
        due.is("ofInn(2, 1)", x.ofInn(2, 1), 4);
        due.is("ofInn(1, 2)", x.ofInn(1, 2), 6);
        due.is("sweep(0, true, 9): as many as there are", x.sweep(0, true, 9), 3);
        due.is("ofInn(0, 1)", x.ofInn(0, 1), 0);
        due.is("ofInn(1, 1)", x.ofInn(1, 1), 8);
    }
}
