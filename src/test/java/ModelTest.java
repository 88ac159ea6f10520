import java.util.Random;

/** Runs of 512 calls, the same ones every time, each answered by the program and by the model. */
public final class ModelTest {
    private static final int RUNS = 600;
    private static final int CALLS = 512;
    private static final Due due = new Due("ModelTest");

    private final Random random;
    private final SnowInns x = new SnowInns();
    private final Model m = new Model();
    private final String run;
    private int calls = 0;

    private ModelTest(int seed) {
        random = new Random(seed);
        run = "run " + seed + ": ";
    }

    public static void main(String[] args) {
        for (int seed = 0; seed < RUNS; seed++) {
            new ModelTest(seed).go();
        }
        due.end();
    }

    private void go() {
        for (int i = random.nextInt(12); i > 0; i--) {
            call();
        }
        while (calls < CALLS - 80) {
            if (random.nextInt(160) == 0 || m.world == null && random.nextInt(8) == 0) {
                text();
            }
            call();
        }
    }

    private void is(String call, long got, long want) {
        calls++;
        due.is(run + call, got, want);
    }

    private int of(int n) {
        return random.nextInt(n);
    }

    /** A number mostly of 0 .. n - 1, now and then just beyond, or far beyond. */
    private int about(int n) {
        int die = of(40);
        if (die == 0) {
            return new int[] {Integer.MIN_VALUE, Integer.MAX_VALUE, -100, 1000, Integer.MAX_VALUE - 1}[of(5)];
        }
        return die <= 2 ? -1 : die <= 5 ? n : n < 1 ? 0 : of(n);
    }

    private String someText() {
        // Little snow and many guests, or nothing ever happens on the ridge.
        int inns = 2 + of(5);
        int top = of(3) == 0 ? 10 : 1 + of(4);
        StringBuilder text = new StringBuilder("i");
        for (int k = 0; k < inns; k++) {
            text.append(',').append("nnnnlc".charAt(of(6))).append(of(top));
        }
        text.append(';');
        for (int night = 1 + of(8); night > 0; night--) {
            text.append("><".charAt(of(2))).append(of(3) == 0 ? of(6) : 1 + of(3));
        }
        int families = 1 + of(4);
        for (int guest = 1 + of(8); guest > 0; guest--) {
            text.append('+').append(of(families)).append(of(inns));
        }
        return text.toString();
    }

    /** Some texts are spoilt: by one code more, less, or another one. */
    private String perhapsSpoilt(String text) {
        StringBuilder spoilt = new StringBuilder(text);
        int place = of(text.length());
        char code = "i,;nlc><+0123456789 ".charAt(of(20));
        switch (of(8)) {
            case 0:
                spoilt.setCharAt(place, code);
                break;
            case 1:
                spoilt.deleteCharAt(place);
                break;
            case 2:
                spoilt.insert(place, code);
                break;
            case 3:
                spoilt.setLength(place);
                break;
            default:
                break;
        }
        return spoilt.length() > 60 ? text : spoilt.toString();
    }

    private void text() {
        String text = perhapsSpoilt(someText());
        int sheet = of(4);
        int lane = of(3);
        int from = of(60 - text.length() + 1);
        int length = from + text.length() + of(60 - from - text.length() + 1);
        is("sheet", x.sheet(sheet, lane, length), m.sheet(sheet, lane, length));
        for (int i = 0; i < text.length() && calls < CALLS - 1; i++) {
            char code = text.charAt(i);
            is("put", x.put(sheet, from + i, code), m.put(sheet, from + i, code));
        }
        is("ridge of " + text, x.ridge(sheet, lane, from, text.length()), m.ridge(sheet, lane, from, text.length()));
    }

    private void call() {
        int inns = m.many(0);
        int nights = m.many(1);
        int guests = m.many(2);
        switch (of(5)) {
            case 0:
                ridgeCall(inns, nights, guests);
                break;
            case 1:
                nightsCall(inns, nights, guests);
                break;
            case 2:
                trialCall(inns, nights);
                break;
            case 3:
                readingCall(inns, nights, guests);
                break;
            default:
                sheetCall(inns);
                break;
        }
    }

    private void ridgeCall(int inns, int nights, int guests) {
        int a;
        int b;
        boolean is = random.nextBoolean();
        switch (of(9)) {
            case 0:
                a = about(inns);
                b = about(3);
                is("ofInn(" + a + ", " + b + ")", x.ofInn(a, b), m.ofInn(a, b));
                break;
            case 1:
                a = about(guests);
                b = about(2);
                is("ofGuest(" + a + ", " + b + ")", x.ofGuest(a, b), m.ofGuest(a, b));
                break;
            case 2:
                a = about(nights);
                b = about(2);
                is("ofNight(" + a + ", " + b + ")", x.ofNight(a, b), m.ofNight(a, b));
                break;
            case 3:
                a = about(2);
                is("rule(" + a + ")", x.rule(a), m.rule(a));
                break;
            case 4:
                a = about(nights);
                b = about(6);
                is("fall(" + a + ", " + b + ")", x.fall(a, b), m.fall(a, b));
                break;
            case 5:
                a = about(nights);
                is("gust(" + a + ", " + is + ")", x.gust(a, is), m.gust(a, is));
                break;
            case 6:
                a = about(guests);
                b = about(inns);
                is("lodge(" + a + ", " + b + ")", x.lodge(a, b), m.lodge(a, b));
                break;
            case 7:
                a = about(inns);
                b = about(10);
                is("sweep(" + a + ", " + is + ", " + b + ")", x.sweep(a, is, b), m.sweep(a, is, b));
                break;
            default:
                a = about(5);
                is("many(" + a + ")", x.many(a), m.many(a));
                break;
        }
    }

    private void nightsCall(int inns, int nights, int guests) {
        int n = about(nights + 1);
        int a;
        switch (of(4)) {
            case 0:
                a = about(guests);
                is("where(" + a + ", " + n + ")", x.where(a, n), m.where(a, n));
                break;
            case 1:
                a = about(inns);
                is("deep(" + a + ", " + n + ")", x.deep(a, n), m.deep(a, n));
                break;
            case 2:
                a = about(inns + 1);
                is("beds(" + a + ", " + n + ")", x.beds(a, n), m.beds(a, n));
                break;
            default:
                listCall(n, guests);
                break;
        }
    }

    /** A list that is mostly right, so that later guests are come to as well. */
    private void listCall(int n, int guests) {
        int sheet = about(4);
        int lane = sheet == about(4) || sheet < 0 || sheet > 3 || m.sheets[sheet] == null ? about(3) : laneOf(sheet);
        int from = about(20);
        int many = about(guests + 1);
        for (int g = 0; g < guests && of(4) != 0 && from >= 0 && from < 50; g++) {
            int v = Math.max(0, m.where(g, n));
            is("put", x.put(sheet, from + g, v), m.put(sheet, from + g, v));
        }
        is("list(" + n + ", " + sheet + ", " + lane + ", " + from + ", " + many + ")",
                x.list(n, sheet, lane, from, many), m.list(n, sheet, lane, from, many));
        is("fault()", x.fault(), m.fault());
    }

    private int laneOf(int sheet) {
        Object row = m.sheets[sheet];
        return row instanceof byte[] ? 0 : row instanceof short[] ? 1 : 2;
    }

    private void trialCall(int inns, int nights) {
        int f = about(4);
        int n = about(nights + 1);
        int a;
        switch (of(5)) {
            case 0:
                is("meet(" + f + ")", x.meet(f), m.meet(f));
                break;
            case 1:
                a = about(3);
                is("least(" + n + ", " + a + ")", x.least(n, a), m.least(n, a));
                break;
            case 2:
                is("turn(" + f + ", " + n + ")", x.turn(f, n), m.turn(f, n));
                break;
            case 3:
                a = about(nights);
                is("corks(" + a + ")", x.corks(a), m.corks(a));
                break;
            default:
                // The model is slow here, and few nights tell the same.
                int few = n > 5 && n <= nights && of(6) != 0 ? of(6) : n;
                a = about(2);
                is("odds(" + f + ", " + few + ", " + a + ")", x.odds(f, few, a), m.odds(f, few, a));
                break;
        }
    }

    private void readingCall(int inns, int nights, int guests) {
        int a;
        switch (of(7)) {
            case 0:
            case 1:
                a = about(guests);
                int night = about(nights);
                boolean isTrue = of(4) != 0 && a >= 0 && a < guests && night >= 0 && night < nights;
                int k = isTrue ? m.where(a, night + 1) : about(inns + 1);
                is("reading(" + a + ", " + k + ", " + night + ")", x.reading(a, k, night), m.reading(a, k, night));
                break;
            case 2:
                a = about(3);
                is("back(" + a + ")", x.back(a), m.back(a));
                break;
            case 3:
                is("rules()", x.rules(), m.rules());
                break;
            case 4:
                a = about(inns);
                is("kinds(" + a + ")", x.kinds(a), m.kinds(a));
                break;
            case 5:
                a = about(inns);
                is("depths(" + a + ")", x.depths(a), m.depths(a));
                break;
            default:
                a = about(nights);
                is("falls(" + a + ")", x.falls(a), m.falls(a));
                break;
        }
    }

    private void sheetCall(int inns) {
        int k = about(4);
        int a = about(12);
        int b;
        switch (of(9)) {
            case 0:
                b = about(3);
                int n = of(8) == 0 ? about(61) : a;
                is("sheet(" + k + ", " + b + ", " + n + ")", x.sheet(k, b, n), m.sheet(k, b, n));
                break;
            case 1:
                is("lose(" + k + ")", x.lose(k), m.lose(k));
                break;
            case 2:
                b = of(3) == 0 ? random.nextInt() : about(300);
                is("put(" + k + ", " + a + ", " + b + ")", x.put(k, a, b), m.put(k, a, b));
                break;
            case 3:
                b = about(3);
                is("cell(" + k + ", " + a + ", " + b + ")", x.cell(k, a, b), m.cell(k, a, b));
                break;
            case 4:
                b = about(12);
                int other = about(4);
                int many = about(8);
                is("copy(" + k + ", " + a + ", " + other + ", " + b + ", " + many + ")",
                        x.copy(k, a, other, b, many), m.copy(k, a, other, b, many));
                break;
            case 5:
                a = about(inns);
                is("tell(" + a + ")", x.tell(a), m.tell(a));
                is("trace()", x.trace(), m.trace());
                break;
            case 6:
                a = about(inns);
                is("light(" + a + ")", x.light(a), m.light(a));
                is("trace()", x.trace(), m.trace());
                break;
            case 7:
                a = about(inns);
                b = about(3);
                is("as(" + a + ", " + b + ")", x.as(a, b), m.as(a, b));
                break;
            default:
                is("fault()", x.fault(), m.fault());
                break;
        }
    }
}
