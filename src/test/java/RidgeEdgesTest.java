/** The edges of promises 1 to 10 and of '1 A RIDGE', each in a case of its own. */
public final class RidgeEdgesTest {
    private static final int UNKNOWN = SnowInns.UNKNOWN, OUTSIDE = SnowInns.OUTSIDE, STATE = SnowInns.STATE;
    private static final int NULL = 1, CAST = 2, INDEX = 3, SIZE = 4;
    private static final String SHORTEST = "i,n0,n0;>0+00";
    private static final String LONGEST = "i,c9,l9,n9,c0,l0,n0;>0<1>2<3>4<5>0<1+00+11+22+33+04+15+20+31";
    private static final int[] FAR_CODES = {Integer.MIN_VALUE, Integer.MAX_VALUE, 65536 + 'i', 65536 + '+',
        65536 + '0', -65536 + ',', 1000000 + 44};

    public static void main(String[] args) {
        Cases.run(RidgeEdgesTest.class, 1, 10);
    }

    // ---- 1 A RIDGE: which codes a text goes on by

    /** Of all codes behind the start, only these go on; behind a whole text the code just ends it too soon. */
    private static void goesOnBy(String start, String codes) {
        for (int code = -300; code <= 400; code++) {
            goesOnBy(start, code, code >= 0 && codes.indexOf(code) >= 0);
        }
        for (int code : FAR_CODES) {
            goesOnBy(start, code, false);
        }
    }

    private static void goesOnBy(String start, int code, boolean goesOn) {
        SnowInns x = new SnowInns();
        x.sheet(2, 2, start.length() + 1);
        Due.write(x, 2, 0, start);
        x.put(2, start.length(), code);
        int answer = x.ridge(2, 2, 0, start.length() + 1);
        boolean stopped = answer == -100 - start.length();
        Cases.is(start + " and the code " + code + ": goes on", stopped ? 0 : 1, goesOn ? 1 : 0);
        Cases.is(start + " and the code " + code + ": fault()", x.fault(), 0);
    }

    private static void taken(String text, int inns, int nights, int guests) {
        Told told = Told.nothing();
        Cases.is("ridge of " + text, told.ridge(text), guests);
        told.is("many(0)", inns).is("many(1)", nights).is("many(2)", guests);
    }

    private static void stopsAt(String text, int place) {
        Told told = Told.nothing();
        Cases.is("ridge of " + text, told.ridge(text), -100 - place);
        told.row("many(#)", 0, 0, 0, 0, 0);
    }

    static void block1_firstCodeIsI() {
        goesOnBy("", "i");
    }

    static void block1_noInnYet() {
        goesOnBy("i", ",");
    }

    static void block1_lettersOfKinds() {
        goesOnBy("i,", "nlc");
        goesOnBy("i,n0,n0,", "nlc");
    }

    static void block1_digitsOfInches() {
        goesOnBy("i,n", "0123456789");
        goesOnBy("i,c9,l", "0123456789");
    }

    static void block1_oneInnIsTooFew() {
        goesOnBy("i,n0", ",");
        stopsAt("i,n0;>0+00", 4);
        stopsAt("i;>0+00", 1);
    }

    static void block1_twoInnsAreEnough() {
        goesOnBy("i,n0,l1", ",;");
        taken(SHORTEST, 2, 1, 1);
    }

    static void block1_sixInnsAreTheMost() {
        goesOnBy("i,n0,n0,n0,n0,n0", ",;");
        goesOnBy("i,n0,n0,n0,n0,n0,n0", ";");
        taken("i,n0,n0,n0,n0,n0,n0;>0+00", 6, 1, 1);
        stopsAt("i,n0,n0,n0,n0,n0,n0,n0;>0+00", 19);
    }

    static void block1_noNightIsTooFew() {
        goesOnBy("i,n0,n0;", "><");
        stopsAt("i,n0,n0;+00", 8);
    }

    static void block1_digitsOfFall() {
        goesOnBy("i,n0,n0;>", "012345");
        goesOnBy("i,n0,n0;<", "012345");
    }

    static void block1_oneNightIsEnough() {
        goesOnBy("i,n0,n0;>0", "><+");
        goesOnBy("i,n0,n0;<5", "><+");
    }

    static void block1_eightNightsAreTheMost() {
        goesOnBy("i,n0,n0;>0<0>0<0>0<0>0", "><+");
        goesOnBy("i,n0,n0;>0<0>0<0>0<0>0<0", "+");
        taken("i,n0,n0;>0<0>0<0>0<0>0<0+00", 2, 8, 1);
        stopsAt("i,n0,n0;>0<0>0<0>0<0>0<0>0+00", 24);
        stopsAt("i,n0,n0;>0<0>0<0>0<0>0<0<0+00", 24);
    }

    static void block1_noGuestIsTooFew() {
        stopsAt("i,n0,n0;>0", 10);
        goesOnBy("i,n0,n0;>0+", "0123");
    }

    static void block1_digitsOfFamilies() {
        goesOnBy("i,n0,n0,n0,n0,n0,n0;>0+", "0123");
        goesOnBy("i,n0,n0;>0+00+", "0123");
    }

    static void block1_innOfAGuestIsOneThatThereIs() {
        goesOnBy("i,n0,n0;>0+0", "01");
        goesOnBy("i,n0,n0,n0;>0+0", "012");
        goesOnBy("i,n0,n0,n0,n0;>0+0", "0123");
        goesOnBy("i,n0,n0,n0,n0,n0;>0+0", "01234");
        goesOnBy("i,n0,n0,n0,n0,n0,n0;>0+3", "012345");
    }

    static void block1_oneGuestIsEnough() {
        goesOnBy("i,n0,n0;>0+00", "+");
        taken(SHORTEST, 2, 1, 1);
    }

    static void block1_eightGuestsAreTheMost() {
        goesOnBy("i,n0,n0;>0+00+00+00+00+00+00+00", "+");
        goesOnBy("i,n0,n0;>0+00+00+00+00+00+00+00+00", "");
        taken("i,n0,n0;>0+00+00+00+00+00+00+00+00", 2, 1, 8);
        stopsAt("i,n0,n0;>0+00+00+00+00+00+00+00+00+00", 34);
    }

    static void block1_endsTooSoon() {
        for (int length = 0; length < LONGEST.length(); length++) {
            // Behind the first GUEST each third length is a whole text.
            boolean whole = length >= 39 && length % 3 == 0;
            int want = whole ? (length - 36) / 3 : -100 - length;
            Cases.is("the first " + length + " codes of " + LONGEST,
                    Told.nothing().ridge(LONGEST.substring(0, length)), want);
        }
        for (int length = 0; length < SHORTEST.length(); length++) {
            stopsAt(SHORTEST.substring(0, length), length);
        }
    }

    static void block1_endsTooSoonThoughTheRowGoesOn() {
        for (int n = 0; n < SHORTEST.length(); n++) {
            Told told = Told.nothing().go("sheet(1, 1, 20)");
            Due.write(told.x, 1, 4, SHORTEST);
            told.is("ridge(1, 1, 4, " + n + ")", -100 - n).is("many(0)", 0);
        }
    }

    static void block1_firstFaultOfSeveral() {
        stopsAt("x,y0", 0);
        stopsAt("i,x:", 2);
        stopsAt("i,n0,n0;>6<9+44", 9);
        stopsAt("i,n0,n0;>0+42", 11);
    }

    static void block1_longestTextFillsASheet() {
        Cases.is("codes of the longest text", LONGEST.length(), 60);
        taken(LONGEST, 6, 8, 8);
        Told.of(LONGEST).is("ofInn(0, 0)", 2).is("ofInn(0, 1)", 9).is("ofInn(5, 0)", 0).is("ofInn(5, 1)", 0)
                .is("ofNight(5, 1)", 5).is("ofNight(7, 0)", 1).is("ofNight(7, 1)", 1)
                .is("ofGuest(5, 0)", 1).is("ofGuest(5, 1)", 5).is("ofGuest(7, 0)", 3).is("ofGuest(7, 1)", 1);
    }

    static void block1_zeroBehindTheWholeText() {
        Told told = Told.nothing().go("sheet(0, 0, 14)");
        Due.write(told.x, 0, 0, SHORTEST);
        told.is("ridge(0, 0, 0, 14)", -113).is("ridge(0, 0, 0, 13)", 1);
    }

    static void block1_codesAreCutToTheLaneOfTheirSheet() {
        for (int lane = 0; lane < 3; lane++) {
            Told told = Told.nothing().go("sheet(0, " + lane + ", 13)");
            Due.write(told.x, 0, 0, SHORTEST);
            told.go("put(0, 0, " + (65536 + 'i') + ")");
            told.is("ridge(0, " + lane + ", 0, 13)", lane == 2 ? -100 : 1);
            told.go("put(0, 0, " + (256 + 'i') + ")");
            told.is("ridge(0, " + lane + ", 0, 13)", lane == 0 ? 1 : -100);
        }
    }

    static void block1_placeCountsFromTheFirstCodeOn() {
        Told told = Told.nothing().go("sheet(0, 2, 30)");
        Due.write(told.x, 0, 17, "i,n0,n0;>0+0x");
        told.is("ridge(0, 2, 17, 13)", -112).is("ridge(0, 2, 16, 13)", -100).is("ridge(0, 2, 18, 12)", -100);
    }

    static void block1_keepsByNoInches() {
        Told.of("i,n0,l0,c0;>0+00").is("ofInn(0, 2)", 0).is("ofInn(1, 2)", 1).is("ofInn(2, 2)", 2);
    }

    static void block1_keepsByNineInches() {
        Told.of("i,n9,l9,c9;>0+00").is("ofInn(0, 2)", 9).is("ofInn(1, 2)", 10).is("ofInn(2, 2)", 20);
    }

    static void block1_takenTextMakesAllAnew() {
        String text = "i,n5,n5,n5;>2<2+00+11";
        Told told = Told.of(text).go("rule(1)", "reading(0, 0, 0)", "fall(0, 5)", "gust(1, false)", "lodge(1, 2)",
                "sweep(0, true, 3)");
        Cases.is("the same text", told.ridge(text), 2);
        String anew = Stand.seen(told.x);
        Cases.same("made anew", anew, Stand.seen(Told.of(text).x));
    }

    static void block1_takenTextWithFewerOfAll() {
        Told told = Told.of(LONGEST);
        Cases.is("the shortest text", told.ridge(SHORTEST), 1);
        told.is("many(0)", 2).is("many(1)", 1).is("many(2)", 1).is("ofInn(2, 0)", UNKNOWN)
                .is("ofNight(1, 0)", OUTSIDE).is("ofGuest(1, 0)", UNKNOWN).is("meet(1)", UNKNOWN);
    }

    static void block1_textNotTakenChangesNothing() {
        String[] spoilt = {"", "i", "i,n9", "i,n9,n9,n9,n9,n9,n9;", "i,n9,n9;<5<5<5<5+0", "i,n9,n9;<5+00+00+02",
            "i,l0,l0;<0+11+11+11+11+11+11+11+11+11", "i,n9,n9;<5+00;"};
        for (String text : spoilt) {
            SnowInns x = Stand.withRidge("put(3, 0, 0)");
            SnowInns untouched = Stand.withRidge("put(3, 0, 0)");
            x.sheet(3, 1, text.length());
            untouched.sheet(3, 1, text.length());
            Due.write(x, 3, 0, text);
            Due.write(untouched, 3, 0, text);
            Cases.is("ridge of " + text + " is not taken", x.ridge(3, 1, 0, text.length()) <= -100 ? 1 : 0, 1);
            Cases.is("ridge of " + text + ", then fault()", x.fault(), 0);
            Cases.same("ridge of " + text + ", then all the rest", Stand.seen(x), Stand.seen(untouched));
        }
    }

    // ---- promise 1

    static void promise01_noRidge() {
        Told.nothing().row("many(#)", 0, 0, 0, 0, 0).is("rules()", STATE).is("ofInn(0, 0)", UNKNOWN)
                .is("ofGuest(0, 0)", UNKNOWN).is("ofNight(0, 0)", STATE);
    }

    static void promise01_sheetsHaveNothing() {
        Told.nothing().row("lose(#)", 0, 0, 0, 0).row("put(#, 0, 0)", -11, -11, -11, -11)
                .row("ridge(#, 0, 0, 0)", -11, -11, -11, -11);
    }

    static void promise01_traceAndFaultAtFirst() {
        Told.nothing().is("trace()", 0).is("fault()", 0);
    }

    static void promise01_objectsAreApart() {
        Told one = Told.of("i,n5,n5;>2+00");
        Told.nothing().is("many(0)", 0).is("lose(0)", 0).is("trace()", 0);
        one.is("many(0)", 2);
    }

    // ---- promise 2

    static void promise02_firstAndLastSheet() {
        for (int sheet = 0; sheet < 4; sheet++) {
            Told told = Told.nothing().go("sheet(" + sheet + ", 0, 13)");
            Due.write(told.x, sheet, 0, SHORTEST);
            told.is("ridge(" + sheet + ", 0, 0, 13)", 1);
        }
    }

    static void promise02_noSuchSheet() {
        for (String sheet : new String[] {"-1", "4", "MIN", "MAX"}) {
            Stand.refuses("ridge(" + sheet + ", 0, 0, 5)", UNKNOWN);
            Stand.bareRefuses("ridge(" + sheet + ", 0, 0, 5)", UNKNOWN);
        }
    }

    static void promise02_laneOutside() {
        for (String lane : new String[] {"-1", "3", "MIN", "MAX"}) {
            Stand.refuses("ridge(0, " + lane + ", 0, 5)", OUTSIDE);
            Stand.bareRefuses("ridge(0, " + lane + ", 0, 5)", OUTSIDE);
        }
    }

    static void promise02_eachLaneIsTaken() {
        for (int lane = 0; lane < 3; lane++) {
            Told told = Told.nothing().go("sheet(0, " + lane + ", 13)");
            Due.write(told.x, 0, 0, SHORTEST);
            told.is("ridge(0, " + lane + ", 0, 13)", 1).is("fault()", 0);
        }
    }

    static void promise02_castOfEachOtherLane() {
        for (int sheet = 0; sheet < 3; sheet++) {
            for (int lane = 0; lane < 3; lane++) {
                if (lane != sheet) {
                    Stand.faults("ridge(" + sheet + ", " + lane + ", 0, 1)", CAST);
                    Stand.bareFaults("ridge(" + sheet + ", " + lane + ", 0, 1)", CAST);
                }
            }
        }
    }

    static void promise02_nothingIsNoCast() {
        for (int lane = 0; lane < 3; lane++) {
            Stand.faults("ridge(3, " + lane + ", 0, 0)", NULL);
            Stand.bareFaults("ridge(3, " + lane + ", 0, 1)", NULL);
        }
    }

    static void promise02_sizeBelowZero() {
        Stand.faults("ridge(0, 0, 0, -1)", SIZE);
        Stand.faults("ridge(0, 0, 0, MIN)", SIZE);
        Stand.refuses("ridge(0, 0, 0, 0)", -100);
    }

    static void promise02_indexOfTheFirstCell() {
        for (String i : new String[] {"-1", "5", "6", "MIN", "MAX"}) {
            Stand.faults("ridge(0, 0, " + i + ", 1)", INDEX);
        }
        Stand.refuses("ridge(0, 0, 4, 1)", -100);
    }

    static void promise02_indexOfTheLastCell() {
        for (String cells : new String[] {"0, 6", "1, 5", "4, 2", "0, MAX", "5, MAX", "MAX, MAX", "-1, MAX", "-1, 6"}) {
            Stand.faults("ridge(0, 0, " + cells + ")", INDEX);
        }
        Stand.refuses("ridge(0, 0, 0, 5)", -100);
        Stand.refuses("ridge(0, 0, 1, 4)", -100);
    }

    static void promise02_indexThoughNoCellIsTaken() {
        for (String i : new String[] {"-1", "6", "MIN", "MAX"}) {
            Stand.faults("ridge(0, 0, " + i + ", 0)", INDEX);
        }
        Stand.refuses("ridge(0, 0, 0, 0)", -100);
        Stand.refuses("ridge(0, 0, 5, 0)", -100);
    }

    static void promise02_rowOfNoCells() {
        Told.nothing().is("sheet(1, 0, 0)", 1).is("ridge(1, 0, 0, 0)", -100).is("ridge(1, 0, 1, 0)", -13)
                .is("ridge(1, 0, -1, 0)", -13).is("ridge(1, 0, 0, 1)", -13).is("ridge(1, 0, 0, -1)", -14);
    }

    static void promise02_unknownAheadOfTheRest() {
        Stand.refuses("ridge(4, 3, -1, -1)", UNKNOWN);
        Stand.refuses("ridge(-1, -1, 0, 0)", UNKNOWN);
        Stand.refuses("ridge(MIN, MIN, MIN, MIN)", UNKNOWN);
        Stand.refuses("ridge(MAX, MAX, MAX, MAX)", UNKNOWN);
    }

    static void promise02_outsideAheadOfFaults() {
        Stand.refuses("ridge(0, 3, -1, -1)", OUTSIDE);
        Stand.refuses("ridge(3, 3, -1, -1)", OUTSIDE);
        Stand.refuses("ridge(3, -1, 0, 0)", OUTSIDE);
    }

    static void promise02_castAheadOfSizeAndIndex() {
        Stand.faults("ridge(0, 1, 0, -1)", CAST);
        Stand.faults("ridge(0, 1, -1, 0)", CAST);
        Stand.faults("ridge(0, 2, -1, -1)", CAST);
    }

    static void promise02_nullAheadOfSizeAndIndex() {
        Stand.faults("ridge(3, 0, 0, -1)", NULL);
        Stand.faults("ridge(3, 0, -1, 0)", NULL);
        Stand.faults("ridge(3, 0, -1, -1)", NULL);
    }

    static void promise02_sizeAheadOfIndex() {
        Stand.faults("ridge(0, 0, -1, -1)", SIZE);
        Stand.faults("ridge(0, 0, 6, -1)", SIZE);
        Stand.faults("ridge(0, 0, MAX, MIN)", SIZE);
    }

    static void promise02_indexAheadOfTheFirstFault() {
        Stand.faults("ridge(0, 0, 1, 5)", INDEX);
        Stand.refuses("ridge(0, 0, 1, 4)", -100);
    }

    static void promise02_sheetStaysAsItIs() {
        Told told = Told.nothing().go("sheet(0, 0, 13)");
        Due.write(told.x, 0, 0, SHORTEST);
        told.go("ridge(0, 0, 0, 13)", "lodge(0, 1)", "sweep(0, true, 9)", "fall(0, 5)");
        for (int i = 0; i < 13; i++) {
            told.is("cell(0, " + i + ", 0)", SHORTEST.charAt(i));
        }
        told.go("put(0, 3, '9')").is("ofInn(0, 1)", 0);
    }

    // ---- promise 3

    static void promise03_noSuchInn() {
        for (String k : new String[] {"-1", "3", "MIN", "MAX"}) {
            Stand.refuses("ofInn(" + k + ", 0)", UNKNOWN);
        }
        Told.of("i,n1,l2,c3;>0+00").is("ofInn(0, 1)", 1).is("ofInn(2, 1)", 3);
    }

    static void promise03_whatOutside() {
        for (String what : new String[] {"-1", "3", "MIN", "MAX"}) {
            Stand.refuses("ofInn(0, " + what + ")", OUTSIDE);
        }
        Told.of("i,n1,l2,c3;>0+00").is("ofInn(2, 0)", 2).is("ofInn(2, 2)", 8);
    }

    static void promise03_unknownAheadOfOutside() {
        Stand.refuses("ofInn(3, 3)", UNKNOWN);
        Stand.refuses("ofInn(-1, -1)", UNKNOWN);
    }

    static void promise03_withoutRidge() {
        Stand.bareRefuses("ofInn(0, 0)", UNKNOWN);
        Stand.bareRefuses("ofInn(0, 3)", UNKNOWN);
        Stand.bareRefuses("ofInn(-1, 0)", UNKNOWN);
    }

    static void promise03_firstAndLastOfSixInns() {
        Told.of("i,n1,n2,n3,n4,n5,n6;>0+00").is("ofInn(0, 1)", 1).is("ofInn(5, 1)", 6).is("ofInn(6, 1)", UNKNOWN);
    }

    // ---- promise 4

    static void promise04_noSuchGuest() {
        for (String g : new String[] {"-1", "4", "MIN", "MAX"}) {
            Stand.refuses("ofGuest(" + g + ", 0)", UNKNOWN);
        }
        Told.of("i,n0,n0;>0+30+01").is("ofGuest(0, 0)", 3).is("ofGuest(1, 1)", 1).is("ofGuest(2, 0)", UNKNOWN);
    }

    static void promise04_whatOutside() {
        for (String what : new String[] {"-1", "2", "MIN", "MAX"}) {
            Stand.refuses("ofGuest(0, " + what + ")", OUTSIDE);
        }
        Told.of("i,n0,n0;>0+31").is("ofGuest(0, 0)", 3).is("ofGuest(0, 1)", 1);
    }

    static void promise04_unknownAheadOfOutside() {
        Stand.refuses("ofGuest(4, 2)", UNKNOWN);
        Stand.refuses("ofGuest(-1, -1)", UNKNOWN);
    }

    static void promise04_withoutRidge() {
        Stand.bareRefuses("ofGuest(0, 0)", UNKNOWN);
        Stand.bareRefuses("ofGuest(0, 2)", UNKNOWN);
    }

    static void promise04_firstAndLastOfEightGuests() {
        Told.of("i,n0,n0;>0+30+00+00+00+00+00+00+21").is("ofGuest(0, 0)", 3).is("ofGuest(7, 0)", 2)
                .is("ofGuest(7, 1)", 1).is("ofGuest(8, 0)", UNKNOWN);
    }

    // ---- promise 5

    static void promise05_noSuchNight() {
        for (String night : new String[] {"-1", "3", "MIN", "MAX"}) {
            Stand.refuses("ofNight(" + night + ", 0)", OUTSIDE);
        }
        Told.of("i,n0,n0;<5>1<0+00").is("ofNight(0, 0)", 1).is("ofNight(0, 1)", 5).is("ofNight(2, 0)", 1)
                .is("ofNight(2, 1)", 0);
    }

    static void promise05_whatOutside() {
        for (String what : new String[] {"-1", "2", "MIN", "MAX"}) {
            Stand.refuses("ofNight(0, " + what + ")", OUTSIDE);
        }
        Told.of("i,n0,n0;>5+00").is("ofNight(0, 0)", 0).is("ofNight(0, 1)", 5);
    }

    static void promise05_stateAheadOfOutside() {
        Stand.bareRefuses("ofNight(0, 0)", STATE);
        Stand.bareRefuses("ofNight(-1, 0)", STATE);
        Stand.bareRefuses("ofNight(0, 2)", STATE);
        Stand.bareRefuses("ofNight(MAX, MIN)", STATE);
    }

    static void promise05_firstAndLastOfEightNights() {
        Told.of("i,n0,n0;<1>0>0>0>0>0>0<4+00").is("ofNight(0, 1)", 1).is("ofNight(7, 0)", 1)
                .is("ofNight(7, 1)", 4).is("ofNight(8, 0)", OUTSIDE);
    }

    // ---- promise 6

    static void promise06_outside() {
        for (String v : new String[] {"-1", "2", "MIN", "MAX"}) {
            Stand.refuses("rule(" + v + ")", OUTSIDE);
        }
        Told.of(SHORTEST).is("rule(1)", 0).is("rule(0)", 1);
    }

    static void promise06_theSameAgain() {
        Told.of(SHORTEST).is("rule(0)", 0).is("many(3)", 0).is("rule(1)", 0).is("rule(1)", 1).is("many(3)", 1);
    }

    static void promise06_withoutRidge() {
        Stand.bareRefuses("rule(0)", STATE);
        Stand.bareRefuses("rule(1)", STATE);
    }

    static void promise06_outsideAheadOfState() {
        for (String v : new String[] {"-1", "2", "MIN", "MAX"}) {
            Stand.bareRefuses("rule(" + v + ")", OUTSIDE);
        }
    }

    // ---- promise 7

    static void promise07_noSuchNight() {
        for (String night : new String[] {"-1", "3", "MIN", "MAX"}) {
            Stand.refuses("fall(" + night + ", 0)", OUTSIDE);
        }
        Told.of("i,n0,n0;>1>2>3+00").is("fall(0, 4)", 1).is("fall(2, 4)", 3);
    }

    static void promise07_fallOutside() {
        for (String v : new String[] {"-1", "6", "MIN", "MAX"}) {
            Stand.refuses("fall(0, " + v + ")", OUTSIDE);
        }
        Told.of("i,n0,n0;>1+00").is("fall(0, 0)", 1).is("fall(0, 5)", 0).is("ofNight(0, 1)", 5);
    }

    static void promise07_withoutRidge() {
        Stand.bareRefuses("fall(0, 0)", STATE);
    }

    static void promise07_stateAheadOfOutside() {
        Stand.bareRefuses("fall(-1, 0)", STATE);
        Stand.bareRefuses("fall(0, 6)", STATE);
        Stand.bareRefuses("fall(MAX, MIN)", STATE);
    }

    static void promise07_firstAndLastOfEightNights() {
        Told.of("i,n0,n0;>1>1>1>1>1>1>1>3+00").is("fall(7, 5)", 3).is("fall(7, 5)", 5).is("fall(0, 5)", 1)
                .is("fall(8, 5)", OUTSIDE).is("ofNight(6, 1)", 1);
    }

    // ---- promise 8

    static void promise08_noSuchNight() {
        for (String night : new String[] {"-1", "3", "MIN", "MAX"}) {
            Stand.refuses("gust(" + night + ", true)", OUTSIDE);
            Stand.refuses("gust(" + night + ", false)", OUTSIDE);
        }
        Told.of("i,n0,n0;>1>2>3+00").is("gust(0, true)", 1).is("gust(2, true)", 1).is("ofNight(1, 0)", 0)
                .is("ofNight(2, 0)", 1);
    }

    static void promise08_itWasSo() {
        Told.of("i,n0,n0;>0<0+00").is("gust(0, false)", 0).is("gust(1, true)", 0)
                .is("gust(0, true)", 1).is("gust(0, true)", 0).is("gust(1, false)", 1).is("gust(1, false)", 0)
                .is("ofNight(0, 0)", 1).is("ofNight(1, 0)", 0);
    }

    static void promise08_stateAheadOfOutside() {
        Stand.bareRefuses("gust(0, true)", STATE);
        Stand.bareRefuses("gust(0, false)", STATE);
        Stand.bareRefuses("gust(-1, true)", STATE);
        Stand.bareRefuses("gust(MAX, false)", STATE);
    }

    static void promise08_lastOfEightNights() {
        Told.of("i,n0,n0;>1>1>1>1>1>1>1>1+00").is("gust(7, true)", 1).is("gust(8, true)", OUTSIDE)
                .is("ofNight(7, 0)", 1).is("ofNight(6, 0)", 0);
    }

    // ---- promise 9

    static void promise09_noSuchGuest() {
        for (String g : new String[] {"-1", "4", "MIN", "MAX"}) {
            Stand.refuses("lodge(" + g + ", 0)", UNKNOWN);
        }
        Told.of("i,n0,n0;>1+00+01").is("lodge(0, 1)", 0).is("lodge(1, 0)", 1).is("lodge(2, 0)", UNKNOWN);
    }

    static void promise09_noSuchInn() {
        for (String k : new String[] {"-1", "4", "MIN", "MAX"}) {
            Stand.refuses("lodge(0, " + k + ")", UNKNOWN);
        }
        Told.of("i,n0,n0,n0;>1+01").is("lodge(0, 0)", 1).is("lodge(0, 2)", 0).is("ofGuest(0, 1)", 2);
    }

    static void promise09_theRoadIsNoInn() {
        Stand.refuses("lodge(0, 3)", UNKNOWN);
    }

    static void promise09_bothAreNot() {
        Stand.refuses("lodge(4, 3)", UNKNOWN);
        Stand.refuses("lodge(MIN, MAX)", UNKNOWN);
    }

    static void promise09_whereTheyAreAnyhow() {
        Told.of("i,n0,n0;>1+01").is("lodge(0, 1)", 1).is("ofGuest(0, 1)", 1);
    }

    static void promise09_moreThanAnInnKeeps() {
        Told.of("i,n0,n0;>1+01+01").is("lodge(0, 0)", 1).is("lodge(1, 0)", 1).is("beds(0, 0)", 3);
    }

    static void promise09_withoutRidge() {
        Stand.bareRefuses("lodge(0, 0)", UNKNOWN);
    }

    static void promise09_lastGuestToTheLastInn() {
        Told.of("i,n0,n0,n0,n0,n0,n0;>0+00+00+00+00+00+00+00+00").is("lodge(7, 5)", 0).is("lodge(7, 6)", UNKNOWN)
                .is("lodge(8, 5)", UNKNOWN).is("beds(5, 0)", 128).is("beds(0, 0)", 127);
    }

    // ---- promise 10

    static void promise10_noSuchInn() {
        for (String k : new String[] {"-1", "3", "4", "MIN", "MAX"}) {
            Stand.refuses("sweep(" + k + ", true, 1)", UNKNOWN);
            Stand.refuses("sweep(" + k + ", false, 1)", UNKNOWN);
        }
    }

    static void promise10_noOtherInn() {
        Stand.refuses("sweep(0, false, 1)", UNKNOWN);
        Stand.refuses("sweep(2, true, 1)", UNKNOWN);
        Told.of("i,n1,n1,n1;>0+00").is("sweep(0, true, 1)", 1).is("sweep(2, false, 1)", 1).is("ofInn(1, 1)", 3);
    }

    static void promise10_inchesOutside() {
        for (String v : new String[] {"-1", "10", "MIN", "MAX"}) {
            Stand.refuses("sweep(0, true, " + v + ")", OUTSIDE);
            Stand.refuses("sweep(1, false, " + v + ")", OUTSIDE);
        }
    }

    static void promise10_unknownAheadOfOutside() {
        Stand.refuses("sweep(3, false, 10)", UNKNOWN);
        Stand.refuses("sweep(-1, true, -1)", UNKNOWN);
        Stand.refuses("sweep(0, false, 10)", UNKNOWN);
        Stand.refuses("sweep(2, true, -1)", UNKNOWN);
    }

    static void promise10_withoutRidge() {
        Stand.bareRefuses("sweep(0, true, 1)", UNKNOWN);
        Stand.bareRefuses("sweep(0, false, 1)", UNKNOWN);
        Stand.bareRefuses("sweep(1, false, 10)", UNKNOWN);
        Stand.bareRefuses("sweep(-1, true, 0)", UNKNOWN);
    }

    static void promise10_noInches() {
        Told.of("i,n4,n5;>0+00").is("sweep(0, true, 0)", 0).is("sweep(1, false, 0)", 0).is("ofInn(0, 1)", 4)
                .is("ofInn(1, 1)", 5);
    }

    static void promise10_nineInches() {
        Told.of("i,n9,n0;>0+00").is("sweep(0, true, 9)", 9).is("ofInn(0, 1)", 0).is("ofInn(1, 1)", 9)
                .is("sweep(1, false, 9)", 9).is("ofInn(0, 1)", 9).is("ofInn(1, 1)", 0);
    }

    static void promise10_asManyAsThereAre() {
        Told.of("i,n4,n1;>0+00").is("sweep(0, true, 4)", 4).is("ofInn(0, 1)", 0).is("ofInn(1, 1)", 5);
    }

    static void promise10_moreThanThereAre() {
        Told.of("i,n4,n1;>0+00").is("sweep(0, true, 5)", 4).is("ofInn(0, 1)", 0).is("ofInn(1, 1)", 5);
        Told.of("i,n0,n1;>0+00").is("sweep(0, true, 9)", 0).is("ofInn(0, 1)", 0).is("ofInn(1, 1)", 1);
    }

    static void promise10_justNineThere() {
        Told.of("i,n4,n5;>0+00").is("sweep(0, true, 4)", 4).is("ofInn(0, 1)", 0).is("ofInn(1, 1)", 9);
    }

    static void promise10_moreThanNineThereIsLost() {
        Told.of("i,n4,n6;>0+00").is("sweep(0, true, 4)", 3).is("ofInn(0, 1)", 0).is("ofInn(1, 1)", 9);
        Told.of("i,n9,n6;>0+00").is("sweep(1, false, 2)", 0).is("ofInn(0, 1)", 9).is("ofInn(1, 1)", 4);
    }

    static void promise10_moreThanThereAreAndMoreThanNineThere() {
        Told.of("i,n4,n7;>0+00").is("sweep(0, true, 9)", 2).is("ofInn(0, 1)", 0).is("ofInn(1, 1)", 9);
    }

    static void promise10_aheadOfTheFirstNight() {
        Told.of("i,n4,n1;>2>2+00").go("sweep(0, true, 3)").is("deep(0, 0)", 1).is("deep(1, 0)", 4).is("deep(0, 2)", 1)
                .is("deep(1, 2)", 4).is("ofInn(1, 2)", 4);
    }

    static void promise10_lastOfSixInns() {
        Told.of("i,n1,n1,n1,n1,n1,n1;>0+00").is("sweep(4, true, 1)", 1).is("ofInn(5, 1)", 2)
                .is("sweep(5, true, 1)", UNKNOWN).is("sweep(5, false, 2)", 2).is("ofInn(4, 1)", 2)
                .is("sweep(6, false, 1)", UNKNOWN);
    }
}
