import java.math.BigInteger;
import java.util.ArrayList;
import java.util.List;
import java.util.TreeSet;
import java.util.regex.Matcher;
import java.util.regex.Pattern;

/**
 * The document told once more, by lists, trees and regular expressions and without a thought
 * of cost, so that ModelTest can hold the program against it. Nothing is shared with the program.
 */
final class Model {
    static final long LOST = Long.MIN_VALUE;

    /** A ridge as a value: what-ifs are made by copying it. */
    static final class World {
        String kinds = "";
        final List<Integer> inches = new ArrayList<>();
        String winds = "";
        final List<Integer> falls = new ArrayList<>();
        final List<Integer> families = new ArrayList<>();
        final List<Integer> homes = new ArrayList<>();
        int rule = 0;
        int cork = -1;

        World same() {
            World w = new World();
            w.kinds = kinds;
            w.inches.addAll(inches);
            w.winds = winds;
            w.falls.addAll(falls);
            w.families.addAll(families);
            w.homes.addAll(homes);
            w.rule = rule;
            return w;
        }

        World withWind(int night, char wind) {
            World w = same();
            w.winds = winds.substring(0, night) + wind + winds.substring(night + 1);
            return w;
        }

        World withKind(int k, char kind) {
            World w = same();
            w.kinds = kinds.substring(0, k) + kind + kinds.substring(k + 1);
            return w;
        }

        int keeps(int k, int deep) {
            char kind = kinds.charAt(k);
            int lodge = deep + 1;
            return (kind == 'n' ? deep : kind == 'l' ? lodge : lodge * 2) + (k == cork ? 1 : 0);
        }

        int deepBehind(int k, int n) {
            int deep = inches.get(k);
            for (int night = 0; night < n; night++) {
                deep = deep + falls.get(night) - 2;
                deep = deep < 0 ? 0 : deep > 9 ? 9 : deep;
            }
            return deep;
        }

        /** Where each guest is behind n nights; the road is the number of inns. */
        List<Integer> behind(int n) {
            int inns = kinds.length();
            List<Integer> at = new ArrayList<>(homes);
            for (int night = 0; night < n; night++) {
                if (night > 0) {
                    int lastOfOldWind = winds.charAt(night - 1) == '>' ? inns - 1 : 0;
                    at.replaceAll(place -> place == inns ? lastOfOldWind : place);
                }
                boolean up = winds.charAt(night) == '>';
                for (int k = up ? 0 : inns - 1; up ? k < inns : k >= 0; k += up ? 1 : -1) {
                    TreeSet<Integer> there = new TreeSet<>();
                    for (int g = 0; g < at.size(); g++) {
                        if (at.get(g) == k) {
                            there.add(g);
                        }
                    }
                    int next = up ? k + 1 : k == 0 ? inns : k - 1;
                    int room = keeps(k, deepBehind(k, night + 1));
                    while (there.size() > room) {
                        at.set(rule == 0 ? there.pollLast() : there.pollFirst(), next);
                    }
                }
            }
            return at;
        }

        long onRoad(int n) {
            return behind(n).stream().filter(place -> place == kinds.length()).count();
        }

        boolean roadStaysEmpty(int n) {
            for (int b = 1; b <= n; b++) {
                if (onRoad(b) > 0) {
                    return false;
                }
            }
            return true;
        }

        int firstMeeting(int f, int n) {
            for (int b = 1; b <= n; b++) {
                List<Integer> at = behind(b);
                TreeSet<Integer> places = new TreeSet<>();
                for (int g = 0; g < at.size(); g++) {
                    if (families.get(g) == f) {
                        places.add(at.get(g));
                    }
                }
                if (places.size() == 1 && places.first() != kinds.length()) {
                    return b - 1;
                }
            }
            return -9;
        }
    }

    World world = null;
    final List<int[]> readings = new ArrayList<>();
    final Object[] sheets = new Object[4];
    int fault = 0;
    BigInteger trace = BigInteger.ZERO;

    private int inns() {
        return world == null ? 0 : world.kinds.length();
    }

    private int nightCount() {
        return world == null ? 0 : world.winds.length();
    }

    private int guests() {
        return world == null ? 0 : world.homes.size();
    }

    private static boolean within(int v, int least, int most) {
        return least <= v && v <= most;
    }

    private boolean isInn(int k) {
        return within(k, 0, inns() - 1);
    }

    private boolean isGuest(int g) {
        return within(g, 0, guests() - 1);
    }

    private boolean isNight(int night) {
        return within(night, 0, nightCount() - 1);
    }

    private boolean isCount(int n) {
        return within(n, 0, nightCount());
    }

    private boolean isFamily(int f) {
        return world != null && world.families.contains(f);
    }

    private static int laneOf(Object row) {
        return row instanceof byte[] ? 0 : row instanceof short[] ? 1 : 2;
    }

    private static int lengthOf(Object row) {
        return java.lang.reflect.Array.getLength(row);
    }

    private static int at(Object row, int i) {
        return ((Number) java.lang.reflect.Array.get(row, i)).intValue();
    }

    private int faulted(int code) {
        fault = code;
        return -10 - code;
    }

    private int rowFault(int sheet, int lane, int i, int n) {
        Object row = sheets[sheet];
        if (row != null && laneOf(row) != lane) {
            return 2;
        }
        if (row == null) {
            return 1;
        }
        if (n < 0) {
            return 4;
        }
        return !within(i, 0, lengthOf(row)) || (long) i + n > lengthOf(row) ? 3 : 0;
    }

    int ridge(int sheet, int lane, int i, int n) {
        fault = 0;
        if (!within(sheet, 0, 3)) {
            return -1;
        }
        if (!within(lane, 0, 2)) {
            return -2;
        }
        int code = rowFault(sheet, lane, i, n);
        if (code != 0) {
            return faulted(code);
        }
        StringBuilder text = new StringBuilder();
        for (int p = 0; p < n; p++) {
            int c = at(sheets[sheet], i + p);
            text.append(within(c, 0, 127) ? (char) c : (char) 0xFFFF);
        }
        int place = firstFault(text.toString());
        if (place >= 0) {
            return -100 - place;
        }
        world = worldOf(text.toString());
        readings.clear();
        return guests();
    }

    private static final List<Pattern> TEXTS = texts();

    private static List<Pattern> texts() {
        List<Pattern> texts = new ArrayList<>();
        for (int inns = 2; inns <= 6; inns++) {
            texts.add(Pattern.compile("i(,[nlc][0-9]){" + inns + "};([<>][0-5]){1,8}(\\+[0-3][0-"
                    + (inns - 1) + "]){1,8}"));
        }
        return texts;
    }

    private static int firstFault(String text) {
        for (int length = 1; length <= text.length(); length++) {
            String head = text.substring(0, length);
            if (TEXTS.stream().noneMatch(p -> goesOn(p, head))) {
                return length - 1;
            }
        }
        return TEXTS.stream().anyMatch(p -> p.matcher(text).matches()) ? -1 : text.length();
    }

    private static boolean goesOn(Pattern p, String head) {
        Matcher m = p.matcher(head);
        return m.matches() || m.hitEnd();
    }

    private static World worldOf(String text) {
        World w = new World();
        Matcher inn = Pattern.compile(",(.)(.)").matcher(text);
        while (inn.find()) {
            w.kinds += inn.group(1);
            w.inches.add(Integer.parseInt(inn.group(2)));
        }
        Matcher night = Pattern.compile("([<>])(.)").matcher(text);
        while (night.find()) {
            w.winds += night.group(1);
            w.falls.add(Integer.parseInt(night.group(2)));
        }
        Matcher guest = Pattern.compile("\\+(.)(.)").matcher(text);
        while (guest.find()) {
            w.families.add(Integer.parseInt(guest.group(1)));
            w.homes.add(Integer.parseInt(guest.group(2)));
        }
        return w;
    }

    int ofInn(int k, int what) {
        if (!isInn(k)) {
            return -1;
        }
        return what == 0 ? "nlc".indexOf(world.kinds.charAt(k))
                : what == 1 ? world.inches.get(k)
                : what == 2 ? world.keeps(k, world.inches.get(k)) : -2;
    }

    int ofGuest(int g, int what) {
        if (!isGuest(g)) {
            return -1;
        }
        return what == 0 ? world.families.get(g) : what == 1 ? world.homes.get(g) : -2;
    }

    int ofNight(int night, int what) {
        if (world == null) {
            return -3;
        }
        if (!isNight(night)) {
            return -2;
        }
        return what == 0 ? "><".indexOf(world.winds.charAt(night)) : what == 1 ? world.falls.get(night) : -2;
    }

    int rule(int v) {
        if (!within(v, 0, 1)) {
            return -2;
        }
        if (world == null) {
            return -3;
        }
        int was = world.rule;
        world.rule = v;
        return was;
    }

    int fall(int night, int v) {
        if (world == null) {
            return -3;
        }
        return isNight(night) && within(v, 0, 5) ? world.falls.set(night, v) : -2;
    }

    int gust(int night, boolean isBack) {
        if (world == null) {
            return -3;
        }
        if (!isNight(night)) {
            return -2;
        }
        String was = world.winds;
        world = keepRule(world.withWind(night, isBack ? '<' : '>'));
        return was.equals(world.winds) ? 0 : 1;
    }

    private World keepRule(World w) {
        w.rule = world.rule;
        return w;
    }

    int lodge(int g, int k) {
        return isGuest(g) && isInn(k) ? world.homes.set(g, k) : -1;
    }

    int sweep(int k, boolean up, int v) {
        long to = (long) k + (up ? 1 : -1);
        if (!isInn(k) || to < 0 || to >= inns()) {
            return -1;
        }
        return within(v, 0, 9) ? sweepIn(world, k, (int) to, v) : -2;
    }

    private static int sweepIn(World w, int from, int to, int v) {
        int came = 0;
        for (int inch = 0; inch < v && w.inches.get(from) > 0; inch++) {
            w.inches.set(from, w.inches.get(from) - 1);
            if (w.inches.get(to) < 9) {
                w.inches.set(to, w.inches.get(to) + 1);
                came++;
            }
        }
        return came;
    }

    int where(int g, int n) {
        return !isGuest(g) ? -1 : !isCount(n) ? -2 : world.behind(n).get(g);
    }

    int deep(int k, int n) {
        return !isInn(k) ? -1 : !isCount(n) ? -2 : world.deepBehind(k, n);
    }

    int beds(int k, int n) {
        if (world == null || !within(k, 0, inns())) {
            return -1;
        }
        if (!isCount(n)) {
            return -2;
        }
        int set = 0;
        for (int g = 0; g < guests(); g++) {
            set += world.behind(n).get(g) == k ? 1 << g : 0;
        }
        return set;
    }

    int list(int nights, int sheet, int lane, int i, int n) {
        fault = 0;
        if (!within(sheet, 0, 3)) {
            return -1;
        }
        if (!within(lane, 0, 2)) {
            return -2;
        }
        if (world == null) {
            return -3;
        }
        if (!isCount(nights)) {
            return -2;
        }
        int code = rowFault(sheet, lane, i, n);
        if (code != 0) {
            return faulted(code);
        }
        if (n > guests()) {
            return -2;
        }
        for (int g = 0; g < n; g++) {
            if (where(g, nights) != at(sheets[sheet], i + g)) {
                return g;
            }
        }
        return -9;
    }

    int meet(int f) {
        return isFamily(f) ? world.firstMeeting(f, nightCount()) : -1;
    }

    int least(int n, int what) {
        if (!isCount(n) || !within(what, 0, 2)) {
            return -2;
        }
        if (world == null) {
            return -3;
        }
        if (world.roadStaysEmpty(n)) {
            return what == 0 ? 0 : -9;
        }
        TreeSet<Integer> sweeps = new TreeSet<>();
        for (int from = 0; from < inns(); from++) {
            for (int to = 0; to < inns(); to++) {
                for (int v = 1; v <= world.inches.get(from); v++) {
                    World w = world.same();
                    if (Math.abs(from - to) == 1) {
                        sweepIn(w, from, to, v);
                        if (w.roadStaysEmpty(n)) {
                            sweeps.add(v * 100 + from * 10 + to);
                        }
                    }
                }
            }
        }
        if (sweeps.isEmpty()) {
            return -9;
        }
        int first = sweeps.first();
        return what == 0 ? first / 100 : what == 1 ? first / 10 % 10 : first % 10;
    }

    int turn(int f, int n) {
        if (!isFamily(f)) {
            return -1;
        }
        if (!isCount(n)) {
            return -2;
        }
        if (world.firstMeeting(f, n) != -9) {
            return -9;
        }
        for (int night = 0; night < n; night++) {
            World w = world.withWind(night, world.winds.charAt(night) == '>' ? '<' : '>');
            if (w.firstMeeting(f, n) != -9) {
                return night;
            }
        }
        return -9;
    }

    int corks(int night) {
        if (world == null) {
            return -3;
        }
        if (!isNight(night)) {
            return -2;
        }
        int set = 0;
        for (int k = 0; k < inns(); k++) {
            World w = world.same();
            w.cork = k;
            set += w.onRoad(night + 1) < world.onRoad(night + 1) ? 1 << k : 0;
        }
        return set;
    }

    int reading(int g, int k, int night) {
        if (!isGuest(g) || !within(k, 0, inns())) {
            return -1;
        }
        if (!isNight(night)) {
            return -2;
        }
        if (readings.size() == 8) {
            return -4;
        }
        readings.add(new int[] {g, k, night});
        return readings.size() - 1;
    }

    int back(int k) {
        if (!within(k, 0, readings.size())) {
            return -2;
        }
        readings.subList(readings.size() - k, readings.size()).clear();
        return readings.size();
    }

    private int bit(World w, int v) {
        return readings.stream().allMatch(r -> w.behind(r[2] + 1).get(r[0]) == r[1]) ? 1 << v : 0;
    }

    int rules() {
        if (world == null) {
            return -3;
        }
        int set = 0;
        for (int v = 0; v < 2; v++) {
            World w = world.same();
            w.rule = v;
            set += bit(w, v);
        }
        return set;
    }

    int kinds(int k) {
        if (!isInn(k)) {
            return -1;
        }
        int set = 0;
        for (int v = 0; v < 3; v++) {
            set += bit(world.withKind(k, "nlc".charAt(v)), v);
        }
        return set;
    }

    int depths(int k) {
        if (!isInn(k)) {
            return -1;
        }
        int set = 0;
        for (int v = 0; v < 10; v++) {
            World w = world.same();
            w.inches.set(k, v);
            set += bit(w, v);
        }
        return set;
    }

    int falls(int night) {
        if (world == null) {
            return -3;
        }
        if (!isNight(night)) {
            return -2;
        }
        int set = 0;
        for (int v = 0; v < 6; v++) {
            World w = world.same();
            w.falls.set(night, v);
            set += bit(w, v);
        }
        return set;
    }

    long odds(int f, int n, int which) {
        if (!isFamily(f) || !isCount(n) || !within(which, 0, 1)) {
            return LOST;
        }
        int all = 1;
        for (int i = 0; i < n; i++) {
            all *= 2;
        }
        int met = 0;
        for (int winds = 0; winds < all; winds++) {
            World w = world.same();
            for (int night = 0; night < n; night++) {
                w = w.withWind(night, (winds >> night) % 2 == 0 ? '>' : '<');
            }
            met += w.firstMeeting(f, n) != -9 ? 1 : 0;
        }
        int common = BigInteger.valueOf(met).gcd(BigInteger.valueOf(all)).intValue();
        return which == 0 ? met / common : all / common;
    }

    int sheet(int k, int lane, int n) {
        fault = 0;
        if (!within(k, 0, 3)) {
            return -1;
        }
        if (!within(lane, 0, 2) || n > 60) {
            return -2;
        }
        if (n < 0) {
            return faulted(4);
        }
        sheets[k] = lane == 0 ? new byte[n] : lane == 1 ? new short[n] : (Object) new int[n];
        return 1;
    }

    int lose(int k) {
        if (!within(k, 0, 3)) {
            return -1;
        }
        int had = sheets[k] == null ? 0 : 1;
        sheets[k] = null;
        return had;
    }

    int put(int k, int i, int v) {
        fault = 0;
        if (!within(k, 0, 3)) {
            return -1;
        }
        if (sheets[k] == null) {
            return faulted(1);
        }
        if (!within(i, 0, lengthOf(sheets[k]) - 1)) {
            return faulted(3);
        }
        if (sheets[k] instanceof byte[]) {
            ((byte[]) sheets[k])[i] = (byte) v;
        } else if (sheets[k] instanceof short[]) {
            ((short[]) sheets[k])[i] = (short) v;
        } else {
            ((int[]) sheets[k])[i] = v;
        }
        return 1;
    }

    long cell(int k, int i, int lane) {
        fault = 0;
        if (!within(k, 0, 3) || !within(lane, 0, 2)) {
            return LOST;
        }
        if (sheets[k] == null) {
            fault = 1;
        } else if (laneOf(sheets[k]) != lane) {
            fault = 2;
        } else if (!within(i, 0, lengthOf(sheets[k]) - 1)) {
            fault = 3;
        }
        return fault == 0 ? at(sheets[k], i) : LOST;
    }

    int copy(int k, int i, int other, int j, int n) {
        fault = 0;
        if (!within(k, 0, 3) || !within(other, 0, 3)) {
            return -1;
        }
        if (sheets[k] == null || sheets[other] == null) {
            return faulted(1);
        }
        if (laneOf(sheets[k]) != laneOf(sheets[other])) {
            return faulted(2);
        }
        if (i < 0 || j < 0 || n < 0 || (long) i + n > lengthOf(sheets[k]) || (long) j + n > lengthOf(sheets[other])) {
            return faulted(3);
        }
        int[] were = new int[n];
        for (int c = 0; c < n; c++) {
            were[c] = at(sheets[k], i + c);
        }
        for (int c = 0; c < n; c++) {
            put(other, j + c, were[c]);
        }
        return n;
    }

    private void leave(int... bodies) {
        for (int body : bodies) {
            trace = trace.multiply(BigInteger.valueOf(31)).add(BigInteger.valueOf(body));
        }
    }

    int tell(int k) {
        if (!isInn(k)) {
            return -1;
        }
        int inches = world.inches.get(k);
        switch (world.kinds.charAt(k)) {
            case 'n':
                leave(1);
                return inches;
            case 'l':
                leave(2, 1);
                return inches + 100;
            default:
                leave(3, 2, 1, 1);
                return inches + 100 + inches;
        }
    }

    int light(int k) {
        if (!isInn(k)) {
            return -1;
        }
        boolean isCastle = world.kinds.charAt(k) == 'c';
        leave(isCastle ? 5 : 4);
        return isCastle ? 80 : k;
    }

    int as(int k, int kind) {
        fault = 0;
        if (!isInn(k)) {
            return -1;
        }
        if (!within(kind, 0, 2)) {
            return -2;
        }
        String is = world.kinds.charAt(k) == 'n' ? "0" : world.kinds.charAt(k) == 'l' ? "01" : "012";
        return is.contains("" + kind) ? 1 : faulted(2);
    }

    int trace() {
        return trace.intValue();
    }

    int fault() {
        return fault;
    }

    int many(int what) {
        return what == 0 ? inns() : what == 1 ? nightCount() : what == 2 ? guests()
                : what == 3 ? (world == null ? 0 : world.rule) : what == 4 ? readings.size() : -2;
    }
}
