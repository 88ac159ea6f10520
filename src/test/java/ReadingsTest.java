/** Promises 19 to 25: readings, what may be by them, odds. */
public final class ReadingsTest {
    private static final Due due = new Due("ReadingsTest");

    public static void main(String[] args) {
        reading();
        back();
        whatMayBe();
        greaterKinds();
        onTheRoad();
        secondNight();
        sets();
        odds();
        due.end();
    }

    private static void reading() {
        SnowInns x = Due.told("i,n2,n1;>2>2+00+00+00");
        due.is("reading(3, 3, 9)", x.reading(3, 3, 9), -1);
        due.is("reading(-1, 0, 0)", x.reading(-1, 0, 0), -1);
        due.is("reading(0, 3, 9)", x.reading(0, 3, 9), -1);
        due.is("reading(0, -1, 0)", x.reading(0, -1, 0), -1);
        due.is("reading(0, 0, 2)", x.reading(0, 0, 2), -2);
        due.is("reading(0, 0, -1)", x.reading(0, 0, -1), -2);
        for (int r = 0; r < 8; r++) {
            due.is("reading " + r, x.reading(r % 3, r % 3, r % 2), r);
            due.is("many(4)", x.many(4), r + 1);
        }
        due.is("a ninth one", x.reading(0, 0, 0), -4);
        due.is("a ninth one, of a night that isn't", x.reading(0, 0, 2), -2);
        due.is("a ninth one, of an INN that isn't", x.reading(0, 3, 0), -1);
        due.is("many(4)", x.many(4), 8);
        due.is("no ridge: reading(0, 0, 0)", new SnowInns().reading(0, 0, 0), -1);
    }

    private static void back() {
        SnowInns x = Due.told("i,n2,n1;>2>2+00+00+00");
        due.is("back(0) of none", x.back(0), 0);
        due.is("back(1) of none", x.back(1), -2);
        x.reading(0, 0, 0);
        x.reading(0, 1, 0);
        due.is("rules() by readings that can't both be", x.rules(), 0);
        due.is("back(3)", x.back(3), -2);
        due.is("back(-1)", x.back(-1), -2);
        due.is("many(4)", x.many(4), 2);
        due.is("back(1): the last one", x.back(1), 1);
        due.is("rules() by the first one", x.rules(), 1);
        due.is("back(1)", x.back(1), 0);
        due.is("no ridge: back(0)", new SnowInns().back(0), 0);
        due.is("no ridge: back(1)", new SnowInns().back(1), -2);
    }

    private static void whatMayBe() {
        SnowInns x = Due.told("i,n2,n1;>2>2+00+00+00");
        due.is("of no readings: rules()", x.rules(), 3);
        due.is("of no readings: kinds(0)", x.kinds(0), 7);
        due.is("of no readings: depths(0)", x.depths(0), 1023);
        due.is("of no readings: falls(0)", x.falls(0), 63);
        x.reading(2, 1, 0);
        due.is("rules()", x.rules(), 1);
        due.is("kinds(0)", x.kinds(0), 1);
        due.is("kinds(1)", x.kinds(1), 7);
        due.is("depths(0)", x.depths(0), 4);
        due.is("depths(1)", x.depths(1), 1022);
        due.is("falls(0)", x.falls(0), 4);
        due.is("falls(1)", x.falls(1), 63);
        due.is("all is as it was: ofInn(0, 0)", x.ofInn(0, 0), 0);
        due.is("all is as it was: ofInn(0, 1)", x.ofInn(0, 1), 2);
        due.is("all is as it was: ofNight(0, 1)", x.ofNight(0, 1), 2);
        due.is("all is as it was: many(3)", x.many(3), 0);
    }

    private static void greaterKinds() {
        SnowInns x = Due.told("i,n0,n9;>2+00+00");
        x.reading(0, 0, 0);
        due.is("a LODGE or a CASTLE: kinds(0)", x.kinds(0), 6);
        x.reading(1, 0, 0);
        due.is("a CASTLE: kinds(0)", x.kinds(0), 4);
        due.is("not the other one: kinds(1)", x.kinds(1), 0);
    }

    private static void onTheRoad() {
        SnowInns x = Due.told("i,n2,n1;>2+00+00+00+00");
        x.reading(3, 2, 0);
        due.is("road: rules()", x.rules(), 1);
        due.is("road: kinds(0)", x.kinds(0), 1);
        due.is("road: kinds(1)", x.kinds(1), 1);
        due.is("road: depths(0)", x.depths(0), 7);
        due.is("road: depths(1)", x.depths(1), 3);
        due.is("road: falls(0)", x.falls(0), 7);
    }

    private static void secondNight() {
        // INN 0 has 1 INCH in night 0 and none in night 1: then guest 0 is at INN 1.
        SnowInns x = Due.told("i,n2,n5;>1>1+00");
        x.reading(0, 1, 1);
        due.is("second night: depths(0)", x.depths(0), 7);
        due.is("second night: falls(0)", x.falls(0), 3);
        due.is("second night: falls(1)", x.falls(1), 3);
        due.is("second night: kinds(0)", x.kinds(0), 1);
        x.reading(0, 0, 0);
        due.is("first night, too: depths(0)", x.depths(0), 4);
        due.is("first night, too: falls(0)", x.falls(0), 2);
        due.is("first night, too: falls(1)", x.falls(1), 3);
    }

    private static void sets() {
        SnowInns none = new SnowInns();
        due.is("no ridge: rules()", none.rules(), -3);
        due.is("no ridge: kinds(0)", none.kinds(0), -1);
        due.is("no ridge: depths(0)", none.depths(0), -1);
        due.is("no ridge: falls(9)", none.falls(9), -3);
        SnowInns x = Due.told("i,n2,n1;>2>2+00+00+00");
        due.is("kinds(2)", x.kinds(2), -1);
        due.is("kinds(-1)", x.kinds(-1), -1);
        due.is("depths(2)", x.depths(2), -1);
        due.is("depths(-1)", x.depths(-1), -1);
        due.is("falls(2)", x.falls(2), -2);
        due.is("falls(-1)", x.falls(-1), -2);
    }

    private static void oddsAre(SnowInns x, String of, int n, long upper, long lower) {
        due.is(of + ": odds(0, " + n + ", 0)", x.odds(0, n, 0), upper);
        due.is(of + ": odds(0, " + n + ", 1)", x.odds(0, n, 1), lower);
    }

    private static void odds() {
        SnowInns x = Due.told("i,n1,n0;>2>2>2+01");
        oddsAre(x, "half", 0, 0, 1);
        oddsAre(x, "half", 1, 1, 2);
        oddsAre(x, "half", 2, 3, 4);
        oddsAre(x, "half", 3, 7, 8);
        due.is("the winds are as they were", x.ofNight(0, 0), 0);
        oddsAre(Due.told("i,n1,n0;>2>2>2+00"), "always", 3, 1, 1);
        oddsAre(Due.told("i,n0,n0;>2>2>2+00"), "never", 3, 0, 1);
        oddsAre(Due.told("i,c0,n1;>2>0+00+01"), "the second night", 1, 0, 1);
        oddsAre(Due.told("i,c0,n1;>2>0+00+01"), "the second night", 2, 1, 2);
        SnowInns greatest = Due.told("i,n1,n0,n0,n0,n0,n0;>2>2>2>2>2>2>2>2+00+00+01+01+02+03+04+15");
        // Guest 7 never has a bed: the one there is belongs to guest 0.
        due.is("greatest: odds(1, 8, 0)", greatest.odds(1, 8, 0), 0);
        greatest.rule(1);
        // Now the bed is guest 7's as soon as one wind is <.
        due.is("greatest, rule 1: odds(1, 8, 0)", greatest.odds(1, 8, 0), 255);
        due.is("greatest, rule 1: odds(1, 8, 1)", greatest.odds(1, 8, 1), 256);
        due.is("odds(1, 9, 9)", x.odds(1, 9, 9), SnowInns.LOST);
        due.is("odds(-1, 0, 0)", x.odds(-1, 0, 0), SnowInns.LOST);
        due.is("odds(4, 0, 0)", x.odds(4, 0, 0), SnowInns.LOST);
        due.is("odds(0, 4, 0)", x.odds(0, 4, 0), SnowInns.LOST);
        due.is("odds(0, -1, 0)", x.odds(0, -1, 0), SnowInns.LOST);
        due.is("odds(0, 0, 2)", x.odds(0, 0, 2), SnowInns.LOST);
        due.is("odds(0, 0, -1)", x.odds(0, 0, -1), SnowInns.LOST);
        due.is("no ridge: odds(0, 0, 0)", new SnowInns().odds(0, 0, 0), SnowInns.LOST);
    }
}
