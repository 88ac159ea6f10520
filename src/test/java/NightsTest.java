/** Promises 11 to 14: where guests are, how deep it lies, who is in which bed, lists. */
public final class NightsTest {
    private static final Due due = new Due("NightsTest");

    public static void main(String[] args) {
        keptByRule();
        snow();
        kindsKeep();
        roadAndBack();
        passedJoinThoseThere();
        greatestRidge();
        anotherRidge();
        refusals();
        list();
        listRefused();
        due.end();
    }

    private static void places(SnowInns x, String of, int n, int... want) {
        for (int g = 0; g < want.length; g++) {
            due.is(of + ": where(" + g + ", " + n + ")", x.where(g, n), want[g]);
        }
    }

    private static void keptByRule() {
        SnowInns x = Due.told("i,n2,n1;>2>2+00+00+00+00");
        places(x, "rule 0", 0, 0, 0, 0, 0);
        places(x, "rule 0", 1, 0, 0, 1, 2);
        due.is("beds(0, 0)", x.beds(0, 0), 15);
        due.is("beds(0, 1)", x.beds(0, 1), 3);
        due.is("beds(1, 1)", x.beds(1, 1), 4);
        due.is("beds(2, 1)", x.beds(2, 1), 8);
        due.is("beds(2, 0)", x.beds(2, 0), 0);
        x.rule(1);
        places(x, "rule 1", 0, 0, 0, 0, 0);
        places(x, "rule 1", 1, 2, 1, 0, 0);
        due.is("rule 1: beds(0, 1)", x.beds(0, 1), 12);
        due.is("rule 1: beds(1, 1)", x.beds(1, 1), 2);
        due.is("rule 1: beds(2, 1)", x.beds(2, 1), 1);
    }

    private static void snow() {
        SnowInns x = Due.told("i,n9,n8,n1,n0;>5>0>4+00");
        int[][] want = {{9, 8, 1, 0}, {9, 9, 4, 3}, {7, 7, 2, 1}, {9, 9, 4, 3}};
        for (int n = 0; n <= 3; n++) {
            for (int k = 0; k < 4; k++) {
                due.is("deep(" + k + ", " + n + ")", x.deep(k, n), want[n][k]);
            }
        }
        x.fall(0, 0);
        due.is("never below 0: deep(2, 1)", x.deep(2, 1), 0);
        due.is("never below 0: deep(3, 1)", x.deep(3, 1), 0);
        due.is("deep(2, 0) is as told", x.deep(2, 0), 1);
    }

    private static void kindsKeep() {
        SnowInns x = Due.told("i,n1,l1,c0;>2+00+00+00+00+00+00+00");
        due.is("an INN: beds(0, 1)", x.beds(0, 1), 1);
        due.is("a LODGE: beds(1, 1)", x.beds(1, 1), 6);
        due.is("a CASTLE: beds(2, 1)", x.beds(2, 1), 24);
        due.is("the ROAD: beds(3, 1)", x.beds(3, 1), 96);
    }

    private static void roadAndBack() {
        SnowInns x = Due.told("i,n0,n1;>2<2>4+00+01");
        places(x, "road", 1, 1, 2);
        places(x, "road", 2, 1, 2);
        places(x, "road", 3, 1, 0);
        SnowInns y = Due.told("i,n0,n1;>2>4+00+01");
        places(y, "found by the last INN", 1, 1, 2);
        places(y, "found by the last INN", 2, 1, 1);
    }

    private static void passedJoinThoseThere() {
        // Guest 0 comes to INN 1 and takes the bed of guest 1, who was there.
        SnowInns x = Due.told("i,n0,n1,n5;>2+00+01");
        places(x, "who comes may stay", 1, 1, 2);
        x.gust(0, true);
        places(x, "the other wind", 1, 3, 1);
    }

    private static void greatestRidge() {
        SnowInns x = Due.told("i,n0,n0,n0,n0,n0,n1;>2>2>2>2>2>2>2<2+00+00+00+00+00+00+00+00");
        for (int n = 1; n < 8; n++) {
            due.is("greatest: beds(5, " + n + ")", x.beds(5, n), 1);
            due.is("greatest: beds(6, " + n + ")", x.beds(6, n), 254);
            due.is("greatest: deep(5, " + n + ")", x.deep(5, n), 1);
        }
        due.is("greatest: where(7, 8)", x.where(7, 8), 6);
        due.is("greatest: where(0, 8)", x.where(0, 8), 5);
        x.rule(1);
        due.is("greatest, rule 1: where(7, 8)", x.where(7, 8), 5);
        due.is("greatest, rule 1: where(0, 8)", x.where(0, 8), 6);
        due.is("greatest, rule 1: beds(6, 8)", x.beds(6, 8), 127);
    }

    private static void anotherRidge() {
        SnowInns x = Due.told("i,n1,n2,n3;>2+00+01+02");
        places(x, "the first ridge", 1, 0, 1, 2);
        Due.tell(x, "i,n9,n9;>0+01");
        due.is("another ridge: beds(0, 0)", x.beds(0, 0), 0);
        due.is("another ridge: beds(1, 0)", x.beds(1, 0), 1);
        due.is("another ridge: beds(2, 0)", x.beds(2, 0), 0);
        due.is("another ridge: beds(2, 1)", x.beds(2, 1), 0);
        due.is("another ridge: deep(1, 1)", x.deep(1, 1), 7);
    }

    private static void refusals() {
        SnowInns none = new SnowInns();
        due.is("no ridge: where(0, 0)", none.where(0, 0), -1);
        due.is("no ridge: deep(0, 0)", none.deep(0, 0), -1);
        due.is("no ridge: beds(0, 0)", none.beds(0, 0), -1);
        SnowInns x = Due.told("i,n0,n1;>2<2>4+00+01");
        due.is("where(2, 9)", x.where(2, 9), -1);
        due.is("where(-1, 0)", x.where(-1, 0), -1);
        due.is("where(0, 4)", x.where(0, 4), -2);
        due.is("where(0, -1)", x.where(0, -1), -2);
        due.is("deep(2, 9)", x.deep(2, 9), -1);
        due.is("deep(-1, 0)", x.deep(-1, 0), -1);
        due.is("deep(0, 4)", x.deep(0, 4), -2);
        due.is("deep(0, -1)", x.deep(0, -1), -2);
        due.is("beds(3, 9)", x.beds(3, 9), -1);
        due.is("beds(-1, 0)", x.beds(-1, 0), -1);
        due.is("beds(2, 4)", x.beds(2, 4), -2);
        due.is("beds(0, -1)", x.beds(0, -1), -2);
    }

    private static void list() {
        SnowInns x = Due.told("i,n2,n1;>2>2+00+00+00+00");
        x.sheet(0, 1, 6);
        x.put(0, 2, 0);
        x.put(0, 3, 0);
        x.put(0, 4, 1);
        x.put(0, 5, 2);
        due.is("list(1, 0, 1, 2, 4)", x.list(1, 0, 1, 2, 4), -9);
        due.is("list(0, 0, 1, 2, 4)", x.list(0, 0, 1, 2, 4), 2);
        due.is("list(0, 0, 1, 2, 2)", x.list(0, 0, 1, 2, 2), -9);
        due.is("list(1, 0, 1, 0, 4)", x.list(1, 0, 1, 0, 4), 2);
        due.is("list(1, 0, 1, 3, 3)", x.list(1, 0, 1, 3, 3), 1);
        due.is("list(1, 0, 1, 5, 1)", x.list(1, 0, 1, 5, 1), 0);
        due.is("list(1, 0, 1, 6, 0)", x.list(1, 0, 1, 6, 0), -9);
        due.is("list: fault()", x.fault(), 0);
    }

    private static void listRefused() {
        SnowInns x = new SnowInns();
        x.sheet(0, 0, 2);
        due.is("list(9, 4, 3, 9, -1)", x.list(9, 4, 3, 9, -1), -1);
        due.is("list(9, -1, 0, 0, 0)", x.list(9, -1, 0, 0, 0), -1);
        due.is("list(9, 0, 3, 9, -1)", x.list(9, 0, 3, 9, -1), -2);
        due.is("list(9, 0, -1, 9, -1)", x.list(9, 0, -1, 9, -1), -2);
        due.is("list(9, 0, 1, 9, -1)", x.list(9, 0, 1, 9, -1), -3);
        x = Due.told("i,n2,n1;>2>2+00+00+00+00");
        x.sheet(0, 0, 6);
        due.is("list(3, 0, 1, 9, -1)", x.list(3, 0, 1, 9, -1), -2);
        due.is("list(-1, 0, 1, 9, -1)", x.list(-1, 0, 1, 9, -1), -2);
        due.is("its fault()", x.fault(), 0);
        due.is("list(2, 0, 1, 9, -1)", x.list(2, 0, 1, 9, -1), -12);
        due.is("its fault()", x.fault(), 2);
        due.is("list(2, 1, 1, 9, -1)", x.list(2, 1, 1, 9, -1), -11);
        due.is("its fault()", x.fault(), 1);
        due.is("list(2, 0, 0, 9, -1)", x.list(2, 0, 0, 9, -1), -14);
        due.is("its fault()", x.fault(), 4);
        due.is("list(2, 0, 0, 7, 0)", x.list(2, 0, 0, 7, 0), -13);
        due.is("list(2, 0, 0, -1, 0)", x.list(2, 0, 0, -1, 0), -13);
        due.is("list(2, 0, 0, 2, 5)", x.list(2, 0, 0, 2, 5), -13);
        due.is("list(2, 0, 0, 2, MAX)", x.list(2, 0, 0, 2, Integer.MAX_VALUE), -13);
        due.is("its fault()", x.fault(), 3);
        due.is("list(2, 0, 0, 0, 5)", x.list(2, 0, 0, 0, 5), -2);
        due.is("its fault()", x.fault(), 0);
    }
}
