/**
 * Inns along a ridge that keep as many guests as they have inches of snow and pass the rest
 * down the wind. What each call answers stands in the document, as promises 1 to 36.
 *
 * The public calls test what they are given, in the order in which the document tells the
 * refusals; the classes inside are only handed numbers that have passed these tests.
 */
public final class SnowInns {
    public static final int UNKNOWN = -1, OUTSIDE = -2, STATE = -3, FULL = -4, NONE = -9;
    public static final long LOST = Long.MIN_VALUE;

    private static final int NO_FAULT = 0, NULL = 1, CAST = 2, INDEX = 3, SIZE = 4;
    private static final int SHEETS = 4, LANES = 3, BYTES = 0, SHORTS = 1, MOST_CELLS = 60;
    private static final int LEAST_INNS = 2, MOST_INNS = 6, MOST_NIGHTS = 8, MOST_GUESTS = 8;
    private static final int FAMILIES = 4, MOST_READINGS = 8;
    private static final int KINDS = 3, INN = 0, LODGE = 1, CASTLE = 2;
    private static final int RULES = 2, WINDS = 2, UP_WIND = 0, DOWN_WIND = 1;
    private static final int MOST_INCHES = 9, MOST_FALL = 5, MELT = 2;

    private final Sheet[] sheets = new Sheet[SHEETS];
    private final Ridge ridge = new Ridge();
    // A text is read into a ridge of its own: one that is not taken must change nothing.
    private final Ridge draft = new Ridge();
    private final Nights nights = new Nights(ridge);
    private final Readings readings = new Readings();
    private final Trials trials = new Trials(ridge, readings);
    private int latestFault = NO_FAULT;
    private int traced = 0;

    public SnowInns() {
        for (int k = 0; k < SHEETS; k++) {
            sheets[k] = new Sheet();
        }
    }

    // ---- 1 the ridge

    public int ridge(int sheet, int lane, int i, int n) {
        latestFault = NO_FAULT;
        if (!isSheet(sheet)) {
            return UNKNOWN;
        }
        if (!isLane(lane)) {
            return OUTSIDE;
        }
        int fault = sheets[sheet].faultOfRow(lane, i, n);
        if (fault != NO_FAULT) {
            return faulted(fault);
        }
        Text text = new Text(sheets[sheet], i, n);
        if (!text.readInto(draft)) {
            return -100 - text.place();
        }
        ridge.become(draft);
        readings.clear();
        return ridge.guests;
    }

    public int ofInn(int k, int what) {
        if (!ridge.hasInn(k)) {
            return UNKNOWN;
        }
        switch (what) {
            case 0:
                return ridge.kind[k];
            case 1:
                return ridge.inches[k];
            case 2:
                return ridge.keepsBy(k, ridge.inches[k]);
            default:
                return OUTSIDE;
        }
    }

    public int ofGuest(int g, int what) {
        if (!ridge.hasGuest(g)) {
            return UNKNOWN;
        }
        switch (what) {
            case 0:
                return ridge.family[g];
            case 1:
                return ridge.home[g];
            default:
                return OUTSIDE;
        }
    }

    public int ofNight(int night, int what) {
        if (!ridge.stands()) {
            return STATE;
        }
        if (!ridge.hasNight(night)) {
            return OUTSIDE;
        }
        switch (what) {
            case 0:
                return ridge.wind[night];
            case 1:
                return ridge.fall[night];
            default:
                return OUTSIDE;
        }
    }

    public int rule(int v) {
        if (v < 0 || v >= RULES) {
            return OUTSIDE;
        }
        if (!ridge.stands()) {
            return STATE;
        }
        int was = ridge.rule;
        ridge.rule = v;
        return was;
    }

    public int fall(int night, int v) {
        if (!ridge.stands()) {
            return STATE;
        }
        if (!ridge.hasNight(night) || v < 0 || v > MOST_FALL) {
            return OUTSIDE;
        }
        int was = ridge.fall[night];
        ridge.fall[night] = v;
        return was;
    }

    public int gust(int night, boolean isBack) {
        if (!ridge.stands()) {
            return STATE;
        }
        if (!ridge.hasNight(night)) {
            return OUTSIDE;
        }
        int wind = isBack ? DOWN_WIND : UP_WIND;
        int turned = ridge.wind[night] == wind ? 0 : 1;
        ridge.wind[night] = wind;
        return turned;
    }

    public int lodge(int g, int k) {
        if (!ridge.hasGuest(g) || !ridge.hasInn(k)) {
            return UNKNOWN;
        }
        int was = ridge.home[g];
        ridge.home[g] = k;
        return was;
    }

    public int sweep(int k, boolean up, int v) {
        // The INN first: k + 1 of any int might wrap.
        if (!ridge.hasInn(k)) {
            return UNKNOWN;
        }
        int to = up ? k + 1 : k - 1;
        if (!ridge.hasInn(to)) {
            return UNKNOWN;
        }
        if (v < 0 || v > MOST_INCHES) {
            return OUTSIDE;
        }
        return ridge.sweepOver(k, to, v);
    }

    // ---- 2 nights

    public int where(int g, int n) {
        if (!ridge.hasGuest(g)) {
            return UNKNOWN;
        }
        if (!ridge.countsNights(n)) {
            return OUTSIDE;
        }
        nights.run(n);
        return nights.placeOf(g, n);
    }

    public int deep(int k, int n) {
        if (!ridge.hasInn(k)) {
            return UNKNOWN;
        }
        if (!ridge.countsNights(n)) {
            return OUTSIDE;
        }
        nights.run(n);
        return nights.inches[n][k];
    }

    public int beds(int k, int n) {
        if (!ridge.hasInnOrRoad(k)) {
            return UNKNOWN;
        }
        if (!ridge.countsNights(n)) {
            return OUTSIDE;
        }
        nights.run(n);
        return nights.guests[n][k];
    }

    public int list(int nights, int sheet, int lane, int i, int n) {
        latestFault = NO_FAULT;
        if (!isSheet(sheet)) {
            return UNKNOWN;
        }
        if (!isLane(lane)) {
            return OUTSIDE;
        }
        if (!ridge.stands()) {
            return STATE;
        }
        if (!ridge.countsNights(nights)) {
            return OUTSIDE;
        }
        int fault = sheets[sheet].faultOfRow(lane, i, n);
        if (fault != NO_FAULT) {
            return faulted(fault);
        }
        if (n > ridge.guests) {
            return OUTSIDE;
        }
        return firstElsewhere(nights, sheets[sheet], i, n);
    }

    // ---- 3 families, snow, winds

    public int meet(int f) {
        int members = ridge.membersOf(f);
        if (members == 0) {
            return UNKNOWN;
        }
        return nights.firstMeeting(members, ridge.nights);
    }

    public int least(int n, int what) {
        if (!ridge.countsNights(n) || what < 0 || what > 2) {
            return OUTSIDE;
        }
        if (!ridge.stands()) {
            return STATE;
        }
        return trials.leastSweep(n, what);
    }

    public int turn(int f, int n) {
        int members = ridge.membersOf(f);
        if (members == 0) {
            return UNKNOWN;
        }
        if (!ridge.countsNights(n)) {
            return OUTSIDE;
        }
        return trials.firstTurn(members, n);
    }

    public int corks(int night) {
        if (!ridge.stands()) {
            return STATE;
        }
        if (!ridge.hasNight(night)) {
            return OUTSIDE;
        }
        return trials.innsThatCork(night);
    }

    // ---- 4 where guests were

    public int reading(int g, int k, int night) {
        if (!ridge.hasGuest(g) || !ridge.hasInnOrRoad(k)) {
            return UNKNOWN;
        }
        if (!ridge.hasNight(night)) {
            return OUTSIDE;
        }
        if (readings.count >= MOST_READINGS) {
            return FULL;
        }
        return readings.add(g, k, night);
    }

    public int back(int k) {
        if (k < 0 || k > readings.count) {
            return OUTSIDE;
        }
        readings.count -= k;
        return readings.count;
    }

    public int rules() {
        if (!ridge.stands()) {
            return STATE;
        }
        return trials.rulesThatFit();
    }

    public int kinds(int k) {
        if (!ridge.hasInn(k)) {
            return UNKNOWN;
        }
        return trials.kindsThatFit(k);
    }

    public int depths(int k) {
        if (!ridge.hasInn(k)) {
            return UNKNOWN;
        }
        return trials.depthsThatFit(k);
    }

    public int falls(int night) {
        if (!ridge.stands()) {
            return STATE;
        }
        if (!ridge.hasNight(night)) {
            return OUTSIDE;
        }
        return trials.fallsThatFit(night);
    }

    public long odds(int f, int n, int which) {
        int members = ridge.membersOf(f);
        if (members == 0 || !ridge.countsNights(n) || which < 0 || which > 1) {
            return LOST;
        }
        int upper = trials.windsThatMeet(members, n);
        int lower = 1 << n;
        // The lower number is a power of 2: halving alone brings the share to least terms.
        for (int halved = 0; halved < n && upper % 2 == 0; halved++) {
            upper /= 2;
            lower /= 2;
        }
        return which == 0 ? upper : lower;
    }

    // ---- 5 sheets, parts

    public int sheet(int k, int lane, int n) {
        latestFault = NO_FAULT;
        if (!isSheet(k)) {
            return UNKNOWN;
        }
        if (!isLane(lane) || n > MOST_CELLS) {
            return OUTSIDE;
        }
        if (n < 0) {
            return faulted(SIZE);
        }
        sheets[k].renew(lane, n);
        return 1;
    }

    public int lose(int k) {
        if (!isSheet(k)) {
            return UNKNOWN;
        }
        int had = sheets[k].isThere() ? 1 : 0;
        sheets[k].clear();
        return had;
    }

    public int put(int k, int i, int v) {
        latestFault = NO_FAULT;
        if (!isSheet(k)) {
            return UNKNOWN;
        }
        if (!sheets[k].isThere()) {
            return faulted(NULL);
        }
        if (!sheets[k].hasCell(i)) {
            return faulted(INDEX);
        }
        sheets[k].write(i, v);
        return 1;
    }

    public long cell(int k, int i, int lane) {
        latestFault = NO_FAULT;
        if (!isSheet(k) || !isLane(lane)) {
            return LOST;
        }
        latestFault = sheets[k].faultOfCell(lane, i);
        return latestFault == NO_FAULT ? sheets[k].cells[i] : LOST;
    }

    public int copy(int k, int i, int other, int j, int n) {
        latestFault = NO_FAULT;
        if (!isSheet(k) || !isSheet(other)) {
            return UNKNOWN;
        }
        Sheet from = sheets[k];
        Sheet to = sheets[other];
        if (!from.isThere() || !to.isThere()) {
            return faulted(NULL);
        }
        if (from.lane != to.lane) {
            return faulted(CAST);
        }
        if (!from.hasCells(i, n) || !to.hasCells(j, n)) {
            return faulted(INDEX);
        }
        System.arraycopy(from.cells, i, to.cells, j, n);
        return n;
    }

    public int tell(int k) {
        if (!ridge.hasInn(k)) {
            return UNKNOWN;
        }
        switch (ridge.kind[k]) {
            case CASTLE:
                return castleTelling(k);
            case LODGE:
                return lodgeTelling(k);
            default:
                return innTelling(k);
        }
    }

    public int light(int k) {
        if (!ridge.hasInn(k)) {
            return UNKNOWN;
        }
        return ridge.kind[k] == CASTLE ? castleLight() : lentLight(k);
    }

    public int as(int k, int kind) {
        latestFault = NO_FAULT;
        if (!ridge.hasInn(k)) {
            return UNKNOWN;
        }
        if (kind < 0 || kind >= KINDS) {
            return OUTSIDE;
        }
        // Each kind is also one of all kinds ahead of it.
        return ridge.kind[k] >= kind ? 1 : faulted(CAST);
    }

    public int trace() {
        return traced;
    }

    public int fault() {
        return latestFault;
    }

    public int many(int what) {
        switch (what) {
            case 0:
                return ridge.inns;
            case 1:
                return ridge.nights;
            case 2:
                return ridge.guests;
            case 3:
                return ridge.rule;
            case 4:
                return readings.count;
            default:
                return OUTSIDE;
        }
    }

    private static boolean isSheet(int k) {
        return k >= 0 && k < SHEETS;
    }

    private static boolean isLane(int lane) {
        return lane >= 0 && lane < LANES;
    }

    private int faulted(int fault) {
        latestFault = fault;
        return -10 - fault;
    }

    private int firstElsewhere(int behind, Sheet told, int i, int n) {
        nights.run(behind);
        for (int g = 0; g < n; g++) {
            if (told.cells[i + g] != nights.placeOf(g, behind)) {
                return g;
            }
        }
        return NONE;
    }

    private void beginBody(int number) {
        traced = 31 * traced + number;
    }

    private int innTelling(int k) {
        beginBody(1);
        return ridge.inches[k];
    }

    private int lodgeTelling(int k) {
        beginBody(2);
        return innTelling(k) + 100;
    }

    private int castleTelling(int k) {
        beginBody(3);
        return lodgeTelling(k) + innTelling(k);
    }

    private int lentLight(int k) {
        beginBody(4);
        return k;
    }

    private int castleLight() {
        beginBody(5);
        return 80;
    }

    /** A row of cells of a lane, or nothing; the room for the longest row is kept and used again. */
    private static final class Sheet {
        private static final int NOTHING = -1;

        final int[] cells = new int[MOST_CELLS];
        int lane = NOTHING;
        int length = 0;

        void renew(int newLane, int newLength) {
            lane = newLane;
            length = newLength;
            for (int i = 0; i < MOST_CELLS; i++) {
                cells[i] = 0;
            }
        }

        void clear() {
            lane = NOTHING;
            length = 0;
        }

        boolean isThere() {
            return lane != NOTHING;
        }

        boolean hasCell(int i) {
            return i >= 0 && i < length;
        }

        boolean hasCells(int i, int n) {
            // Told by what is left behind i: i + n of any two ints might wrap.
            return i >= 0 && i <= length && n >= 0 && n <= length - i;
        }

        void write(int i, int v) {
            cells[i] = lane == BYTES ? (byte) v : lane == SHORTS ? (short) v : v;
        }

        int faultOfCell(int asLane, int i) {
            int fault = faultOfLane(asLane);
            if (fault != NO_FAULT) {
                return fault;
            }
            return hasCell(i) ? NO_FAULT : INDEX;
        }

        int faultOfRow(int asLane, int i, int n) {
            int fault = faultOfLane(asLane);
            if (fault != NO_FAULT) {
                return fault;
            }
            if (n < 0) {
                return SIZE;
            }
            return hasCells(i, n) ? NO_FAULT : INDEX;
        }

        private int faultOfLane(int asLane) {
            // Nothing may be taken as a row of any LANE: it is no CAST.
            if (!isThere()) {
                return NULL;
            }
            return lane == asLane ? NO_FAULT : CAST;
        }
    }

    /** Codes of a sheet, read from left to right; where reading stops short is the FIRST FAULT. */
    private static final class Text {
        private static final int NO_DIGIT = -1;

        private final int[] codes;
        private final int from;
        private final int length;
        private int at = 0;

        Text(Sheet told, int from, int length) {
            this.codes = told.cells;
            this.from = from;
            this.length = length;
        }

        int place() {
            return at;
        }

        boolean readInto(Ridge into) {
            into.clear();
            return takes('i') && readInns(into) && takes(';') && readNights(into)
                    && readGuests(into) && at == length;
        }

        private boolean readInns(Ridge into) {
            while (into.inns < MOST_INNS && takes(',')) {
                int kind = takeKind();
                if (kind < 0) {
                    return false;
                }
                int inches = takeDigit(MOST_INCHES);
                if (inches == NO_DIGIT) {
                    return false;
                }
                into.kind[into.inns] = kind;
                into.inches[into.inns] = inches;
                into.inns++;
            }
            return into.inns >= LEAST_INNS;
        }

        private boolean readNights(Ridge into) {
            while (into.nights < MOST_NIGHTS) {
                int wind = takes('>') ? UP_WIND : takes('<') ? DOWN_WIND : NONE;
                if (wind == NONE) {
                    break;
                }
                int fall = takeDigit(MOST_FALL);
                if (fall == NO_DIGIT) {
                    return false;
                }
                into.wind[into.nights] = wind;
                into.fall[into.nights] = fall;
                into.nights++;
            }
            return into.nights > 0;
        }

        private boolean readGuests(Ridge into) {
            while (into.guests < MOST_GUESTS && takes('+')) {
                int family = takeDigit(FAMILIES - 1);
                if (family == NO_DIGIT) {
                    return false;
                }
                int home = takeDigit(into.inns - 1);
                if (home == NO_DIGIT) {
                    return false;
                }
                into.family[into.guests] = family;
                into.home[into.guests] = home;
                into.guests++;
            }
            return into.guests > 0;
        }

        private int takeKind() {
            return takes('n') ? INN : takes('l') ? LODGE : takes('c') ? CASTLE : NONE;
        }

        private boolean takes(char code) {
            if (at >= length || codes[from + at] != code) {
                return false;
            }
            at++;
            return true;
        }

        private int takeDigit(int greatest) {
            if (at >= length || codes[from + at] < '0' || codes[from + at] > '0' + greatest) {
                return NO_DIGIT;
            }
            int digit = codes[from + at] - '0';
            at++;
            return digit;
        }
    }

    /** What a text tells, as calls have changed it since; without inns there is no RIDGE. */
    private static final class Ridge {
        int inns = 0;
        final int[] kind = new int[MOST_INNS];
        final int[] inches = new int[MOST_INNS];
        int nights = 0;
        final int[] wind = new int[MOST_NIGHTS];
        final int[] fall = new int[MOST_NIGHTS];
        int guests = 0;
        final int[] family = new int[MOST_GUESTS];
        final int[] home = new int[MOST_GUESTS];
        int rule = 0;
        // The one INN that KEEPS one more, as CORKS ask; NONE but in trials.
        int roomier = NONE;

        void clear() {
            inns = 0;
            nights = 0;
            guests = 0;
            rule = 0;
            roomier = NONE;
        }

        void become(Ridge other) {
            inns = other.inns;
            nights = other.nights;
            guests = other.guests;
            rule = other.rule;
            roomier = other.roomier;
            System.arraycopy(other.kind, 0, kind, 0, MOST_INNS);
            System.arraycopy(other.inches, 0, inches, 0, MOST_INNS);
            System.arraycopy(other.wind, 0, wind, 0, MOST_NIGHTS);
            System.arraycopy(other.fall, 0, fall, 0, MOST_NIGHTS);
            System.arraycopy(other.family, 0, family, 0, MOST_GUESTS);
            System.arraycopy(other.home, 0, home, 0, MOST_GUESTS);
        }

        boolean stands() {
            return inns > 0;
        }

        boolean hasInn(int k) {
            return k >= 0 && k < inns;
        }

        boolean hasInnOrRoad(int k) {
            // Without a RIDGE there is no ROAD either.
            return stands() && k >= 0 && k <= inns;
        }

        boolean hasGuest(int g) {
            return g >= 0 && g < guests;
        }

        boolean hasNight(int night) {
            return night >= 0 && night < nights;
        }

        boolean countsNights(int n) {
            return n >= 0 && n <= nights;
        }

        /** The guests of a family as a set: empty where there is no such family. */
        int membersOf(int f) {
            int members = 0;
            for (int g = 0; g < guests; g++) {
                if (family[g] == f) {
                    members |= 1 << g;
                }
            }
            return members;
        }

        int keepsBy(int k, int inchesThere) {
            switch (kind[k]) {
                case CASTLE:
                    return 2 * (inchesThere + 1);
                case LODGE:
                    return inchesThere + 1;
                default:
                    return inchesThere;
            }
        }

        int roomBy(int k, int inchesThere) {
            int keeps = keepsBy(k, inchesThere);
            return k == roomier ? keeps + 1 : keeps;
        }

        int sweepOver(int from, int to, int v) {
            int swept = Math.min(v, inches[from]);
            int came = Math.min(swept, MOST_INCHES - inches[to]);
            inches[from] -= swept;
            inches[to] += came;
            return came;
        }
    }

    /** The nights of a ridge as they pass: row n of each table is how it is behind n of them. */
    private static final class Nights {
        private final Ridge ridge;
        final int[][] inches = new int[MOST_NIGHTS + 1][MOST_INNS];
        // Sets of guests by INN; the ROAD has the place behind the last INN.
        final int[][] guests = new int[MOST_NIGHTS + 1][MOST_INNS + 1];
        // The INN by which those on the ROAD came there, and where the next night finds them.
        private final int[] gate = new int[MOST_NIGHTS + 1];

        Nights(Ridge ridge) {
            this.ridge = ridge;
        }

        void run(int n) {
            begin();
            for (int night = 0; night < n; night++) {
                pass(night, ridge.wind[night]);
            }
        }

        void begin() {
            gate[0] = 0;
            for (int k = 0; k < ridge.inns; k++) {
                inches[0][k] = ridge.inches[k];
            }
            for (int k = 0; k <= ridge.inns; k++) {
                guests[0][k] = 0;
            }
            for (int g = 0; g < ridge.guests; g++) {
                guests[0][ridge.home[g]] |= 1 << g;
            }
        }

        void pass(int night, int wind) {
            snow(night);
            int inns = ridge.inns;
            int[] ahead = guests[night];
            int[] behind = guests[night + 1];
            int sentOn = 0;
            for (int step = 0; step < inns; step++) {
                int k = wind == UP_WIND ? step : inns - 1 - step;
                int there = ahead[k] | sentOn;
                if (k == gate[night]) {
                    there |= ahead[inns];
                }
                behind[k] = keptOf(there, ridge.roomBy(k, inches[night + 1][k]));
                sentOn = there & ~behind[k];
            }
            behind[inns] = sentOn;
            gate[night + 1] = wind == UP_WIND ? inns - 1 : 0;
        }

        private void snow(int night) {
            int more = ridge.fall[night] - MELT;
            for (int k = 0; k < ridge.inns; k++) {
                int lies = inches[night][k] + more;
                inches[night + 1][k] = Math.max(0, Math.min(MOST_INCHES, lies));
            }
        }

        private int keptOf(int there, int room) {
            int many = Integer.bitCount(there);
            int kept = Math.min(room, many);
            return ridge.rule == 0
                    ? there & ~withoutLeast(there, kept)
                    : withoutLeast(there, many - kept);
        }

        private static int withoutLeast(int set, int many) {
            int left = set;
            for (int taken = 0; taken < many; taken++) {
                left &= left - 1;
            }
            return left;
        }

        int onRoad(int n) {
            return guests[n][ridge.inns];
        }

        int placeOf(int g, int n) {
            int place = 0;
            while (place < ridge.inns && !isAt(g, place, n)) {
                place++;
            }
            return place;
        }

        boolean isAt(int g, int place, int n) {
            return (guests[n][place] >> g & 1) == 1;
        }

        boolean isMeeting(int members, int n) {
            for (int k = 0; k < ridge.inns; k++) {
                if ((guests[n][k] & members) == members) {
                    return true;
                }
            }
            return false;
        }

        int firstMeeting(int members, int n) {
            begin();
            for (int night = 0; night < n; night++) {
                pass(night, ridge.wind[night]);
                if (isMeeting(members, night + 1)) {
                    return night;
                }
            }
            return NONE;
        }

        boolean leaveRoadEmpty(int n) {
            begin();
            for (int night = 0; night < n; night++) {
                pass(night, ridge.wind[night]);
                if (onRoad(night + 1) != 0) {
                    return false;
                }
            }
            return true;
        }
    }

    private static final class Readings {
        int count = 0;
        private final int[] guest = new int[MOST_READINGS];
        private final int[] place = new int[MOST_READINGS];
        private final int[] night = new int[MOST_READINGS];

        void clear() {
            count = 0;
        }

        int add(int g, int k, int inNight) {
            guest[count] = g;
            place[count] = k;
            night[count] = inNight;
            count++;
            return count - 1;
        }

        boolean areSo(Nights nights) {
            for (int r = 0; r < count; r++) {
                if (!nights.isAt(guest[r], place[r], night[r] + 1)) {
                    return false;
                }
            }
            return true;
        }
    }

    /** How it would be: each trial changes a ridge beside the one that stands, never that one. */
    private static final class Trials {
        private final Ridge ridge;
        private final Readings readings;
        private final Ridge trial = new Ridge();
        private final Nights nights = new Nights(trial);

        Trials(Ridge ridge, Readings readings) {
            this.ridge = ridge;
            this.readings = readings;
        }

        int leastSweep(int n, int what) {
            trial.become(ridge);
            if (nights.leaveRoadEmpty(n)) {
                return what == 0 ? 0 : NONE;
            }
            for (int v = 1; v <= MOST_INCHES; v++) {
                for (int from = 0; from < ridge.inns; from++) {
                    for (int to = from - 1; to <= from + 1; to += 2) {
                        if (sweepEmptiesRoad(from, to, v, n)) {
                            return what == 0 ? v : what == 1 ? from : to;
                        }
                    }
                }
            }
            return NONE;
        }

        private boolean sweepEmptiesRoad(int from, int to, int v, int n) {
            if (!ridge.hasInn(to) || v > ridge.inches[from]) {
                return false;
            }
            trial.become(ridge);
            trial.sweepOver(from, to, v);
            return nights.leaveRoadEmpty(n);
        }

        int firstTurn(int members, int n) {
            trial.become(ridge);
            if (nights.firstMeeting(members, n) != NONE) {
                return NONE;
            }
            for (int night = 0; night < n; night++) {
                trial.wind[night] = ridge.wind[night] == UP_WIND ? DOWN_WIND : UP_WIND;
                if (nights.firstMeeting(members, n) != NONE) {
                    return night;
                }
                trial.wind[night] = ridge.wind[night];
            }
            return NONE;
        }

        int innsThatCork(int night) {
            trial.become(ridge);
            int asItIs = manyOnRoad(night);
            int set = 0;
            for (int k = 0; k < ridge.inns; k++) {
                trial.roomier = k;
                if (manyOnRoad(night) < asItIs) {
                    set |= 1 << k;
                }
            }
            return set;
        }

        private int manyOnRoad(int night) {
            nights.run(night + 1);
            return Integer.bitCount(nights.onRoad(night + 1));
        }

        int rulesThatFit() {
            trial.become(ridge);
            int set = 0;
            for (int v = 0; v < RULES; v++) {
                trial.rule = v;
                set |= bitIfFit(v);
            }
            return set;
        }

        int kindsThatFit(int k) {
            trial.become(ridge);
            int set = 0;
            for (int v = 0; v < KINDS; v++) {
                trial.kind[k] = v;
                set |= bitIfFit(v);
            }
            return set;
        }

        int depthsThatFit(int k) {
            trial.become(ridge);
            int set = 0;
            for (int v = 0; v <= MOST_INCHES; v++) {
                trial.inches[k] = v;
                set |= bitIfFit(v);
            }
            return set;
        }

        int fallsThatFit(int night) {
            trial.become(ridge);
            int set = 0;
            for (int v = 0; v <= MOST_FALL; v++) {
                trial.fall[night] = v;
                set |= bitIfFit(v);
            }
            return set;
        }

        private int bitIfFit(int v) {
            nights.run(trial.nights);
            return readings.areSo(nights) ? 1 << v : 0;
        }

        int windsThatMeet(int members, int n) {
            trial.become(ridge);
            nights.begin();
            return meetingWinds(nights, members, 0, n);
        }

        /** Of all winds from a night on, how many bring the family together behind n nights at most. */
        private static int meetingWinds(Nights nights, int members, int night, int n) {
            if (night >= n) {
                return 0;
            }
            int many = 0;
            for (int wind = 0; wind < WINDS; wind++) {
                nights.pass(night, wind);
                // Behind a meeting all winds count, whatever they are.
                many += nights.isMeeting(members, night + 1)
                        ? 1 << (n - night - 1)
                        : meetingWinds(nights, members, night + 1, n);
            }
            return many;
        }
    }
}
