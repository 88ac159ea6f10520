/** Promises 15 to 18: where a family meets, the least sweep, the wind that should turn, corks. */
public final class FamiliesTest {
    private static final Due due = new Due("FamiliesTest");

    public static void main(String[] args) {
        meet();
        least();
        leastOfSeveral();
        leastRefused();
        turn();
        corks();
        greatestRidge();
        due.end();
    }

    private static void meet() {
        SnowInns x = Due.told("i,n1,n3;>2+00+00+10");
        due.is("together at first alone: meet(0)", x.meet(0), -9);
        due.is("one guest: meet(1)", x.meet(1), 0);
        due.is("nobody: meet(2)", x.meet(2), -1);
        due.is("meet(-1)", x.meet(-1), -1);
        due.is("meet(4)", x.meet(4), -1);
        x.rule(1);
        due.is("rule 1: meet(0)", x.meet(0), 0);
        due.is("all on the road: meet(0)", Due.told("i,n0,n0;>2+00+00").meet(0), -9);
        due.is("in the second night: meet(0)", Due.told("i,n2,n5;>1>1+00+00").meet(0), 1);
        due.is("no ridge: meet(0)", new SnowInns().meet(0), -1);
    }

    private static void leastIs(String text, int n, int inches, int from, int to) {
        SnowInns x = Due.told(text);
        due.is(text + ": least(" + n + ", 0)", x.least(n, 0), inches);
        due.is(text + ": least(" + n + ", 1)", x.least(n, 1), from);
        due.is(text + ": least(" + n + ", 2)", x.least(n, 2), to);
        due.is(text + ": nothing is swept", x.ofInn(0, 1), text.charAt(3) - '0');
    }

    private static void least() {
        leastIs("i,n0,n3;>2+00+00", 1, 0, -9, -9);
        leastIs("i,n0,n0;>2+00+00", 0, 0, -9, -9);
        leastIs("i,n0,n0;>2+00+00", 1, -9, -9, -9);
        leastIs("i,n3,n0,n0;>2+00+01", 1, 1, 0, 1);
        leastIs("i,n0,n2,n0;>2+00+02", 1, 1, 1, 2);
        leastIs("i,n9,n0;>2+01+01+01", 1, 3, 0, 1);
        // 9 at first are 1 behind four nights without snow: it takes all of them.
        leastIs("i,n9,n0;>0>0>0>0+01", 4, 9, 0, 1);
        leastIs("i,n1,n0;>2>0+00", 1, 0, -9, -9);
        leastIs("i,n1,n0;>2>0+00", 2, -9, -9, -9);
        // No more than there are: 2 would do, but INN 0 has 1.
        leastIs("i,n1,n0;>2+01+01", 1, -9, -9, -9);
    }

    private static void leastOfSeveral() {
        leastIs("i,n1,c0,n1;>2+01+01+01+01", 1, 1, 0, 1);
        leastIs("i,c0,n1,c0;>2+00+00+00+00+00+00", 1, 1, 1, 0);
        // One INCH from INN 2 is fewer than two from INN 0.
        leastIs("i,n2,n0,n9,n0;>2+01+03", 1, 1, 2, 3);
    }

    private static void leastRefused() {
        SnowInns none = new SnowInns();
        due.is("no ridge: least(1, 0)", none.least(1, 0), -2);
        due.is("no ridge: least(0, 3)", none.least(0, 3), -2);
        due.is("no ridge: least(0, 0)", none.least(0, 0), -3);
        SnowInns x = Due.told("i,n0,n3;>2+00+00");
        due.is("least(2, 0)", x.least(2, 0), -2);
        due.is("least(-1, 0)", x.least(-1, 0), -2);
        due.is("least(1, 3)", x.least(1, 3), -2);
        due.is("least(1, -1)", x.least(1, -1), -2);
    }

    private static void turn() {
        SnowInns x = Due.told("i,n1,n0;>2>2+01");
        due.is("turn(0, 0)", x.turn(0, 0), -9);
        due.is("turn(0, 1)", x.turn(0, 1), 0);
        due.is("turn(0, 2)", x.turn(0, 2), 0);
        due.is("turn(1, 9)", x.turn(1, 9), -1);
        due.is("turn(-1, 0)", x.turn(-1, 0), -1);
        due.is("turn(4, 0)", x.turn(4, 0), -1);
        due.is("turn(0, 3)", x.turn(0, 3), -2);
        due.is("turn(0, -1)", x.turn(0, -1), -2);
        due.is("no wind has turned", x.ofNight(0, 0), 0);
        x.gust(0, true);
        due.is("it meets as it is: turn(0, 1)", x.turn(0, 1), -9);
        SnowInns y = Due.told("i,c0,n1;>2>0+00+01");
        due.is("the second night: turn(0, 2)", y.turn(0, 2), 1);
        due.is("the second night is not of these: turn(0, 1)", y.turn(0, 1), -9);
        due.is("from < to >: turn(0, 1)", Due.told("i,n0,n1;<2+00").turn(0, 1), 0);
        due.is("it meets only behind these: turn(0, 1)", Due.told("i,n1,n0;>2<2+01").turn(0, 1), 0);
        due.is("by none: turn(0, 1)", Due.told("i,n0,n0;>2+00").turn(0, 1), -9);
        due.is("no ridge: turn(0, 0)", new SnowInns().turn(0, 0), -1);
    }

    private static void greatestRidge() {
        SnowInns x = Due.told("i,n0,n0,n0,n0,n0,n1;>2>2>2>2>2>2>2>2+00+00+00+00+00+00+00+10");
        due.is("greatest: meet(0)", x.meet(0), -9);
        due.is("greatest: turn(0, 8)", x.turn(0, 8), -9);
        due.is("greatest: least(8, 0)", x.least(8, 0), -9);
        due.is("greatest: corks(7)", x.corks(7), 63);
        x.rule(1);
        due.is("greatest, rule 1: meet(1)", x.meet(1), 0);
        due.is("greatest, rule 1: turn(1, 8)", x.turn(1, 8), -9);
    }

    private static void corks() {
        due.is("both: corks(0)", Due.told("i,n0,n0;>2+00").corks(0), 3);
        due.is("down the wind alone: corks(0)", Due.told("i,n0,n0;>2+01").corks(0), 2);
        due.is("nobody on the road: corks(0)", Due.told("i,n1,n0;>2+00").corks(0), 0);
        SnowInns x = Due.told("i,n1,n0;<2>1+01");
        due.is("corks(0)", x.corks(0), 0);
        due.is("corks(1)", x.corks(1), 3);
        due.is("corks(2)", x.corks(2), -2);
        due.is("corks(-1)", x.corks(-1), -2);
        due.is("an INN keeps no more than it did", x.ofInn(0, 2), 1);
        due.is("no ridge: corks(9)", new SnowInns().corks(9), -3);
    }
}
