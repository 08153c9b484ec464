import java.math.BigInteger;
import java.util.ArrayList;
import java.util.Arrays;
import java.util.List;
import java.util.regex.Matcher;
import java.util.regex.Pattern;

/** The document once more, told as slowly and plainly as can be: ModelTests holds the program against it. */
final class Model {
    private static final int NONE = -1, BAD = -2, NO = -3, FULL = -4;

    /** Where guests are, liking, wet, the evening: what is undone. */
    private static final class Hour {
        final List<Integer> at = new ArrayList<>();
        final List<Integer> liking = new ArrayList<>();
        int wet;
        int evening;

        Hour copy() {
            Hour h = new Hour();
            h.at.addAll(at);
            h.liking.addAll(liking);
            h.wet = wet;
            h.evening = evening;
            return h;
        }
    }

    private static final class State {
        final List<int[]> guests = new ArrayList<>();
        final List<int[]> houses = new ArrayList<>();
        Hour hour = new Hour();
        final List<int[]> seen = new ArrayList<>();
        final List<int[]> notes = new ArrayList<>();
        final List<int[]> marks = new ArrayList<>();
        final List<Hour> past = new ArrayList<>();

        State copy() {
            State s = new State();
            s.guests.addAll(guests);
            s.houses.addAll(houses);
            s.hour = hour.copy();
            s.seen.addAll(seen);
            s.notes.addAll(notes);
            s.marks.addAll(marks);
            for (Hour h : past) {
                s.past.add(h.copy());
            }
            return s;
        }

        void remember() {
            past.add(hour.copy());
            if (past.size() > 8) {
                past.remove(0);
            }
        }
    }

    private State s = new State();
    private final State[] images = new State[2];
    private String text = "";
    private BigInteger above = BigInteger.ZERO;
    private BigInteger below = BigInteger.ONE;
    private final int[] refused = new int[3];

    private int bad() {
        refused[0]++;
        return BAD;
    }

    private int no() {
        refused[1]++;
        return NO;
    }

    private int full() {
        refused[2]++;
        return FULL;
    }

    private boolean guestIs(int i) {
        return i >= 0 && i < s.guests.size();
    }

    private boolean houseIs(int h) {
        return h >= 0 && h < s.houses.size();
    }

    private static boolean in(int x, int a, int b) {
        return a <= x && x <= b;
    }

    // ---- kinds

    private static int size(int kind, int s, int p) {
        if (kind == 0) {
            return s;
        } else if (kind == 1) {
            return Math.max(size(0, s, p) - 2 * p, 1);
        } else if (kind == 2) {
            return (int) Math.ceil(size(0, s, p) / 2.0);
        } else if (kind == 3) {
            return p == 1 || p == 3 ? 0 : size(1, s, p);
        } else if (kind == 4) {
            return size(0, s, p) + p;
        }
        return p >= 2 ? 1 : size(2, s, p);
    }

    private static int need(int kind, int m, int w) {
        if (kind == 0) {
            return m;
        } else if (kind == 1) {
            return Math.max(need(0, m, w) - 3, 1);
        } else if (kind == 2) {
            return need(0, m, w) + 4;
        } else if (kind == 3) {
            return Math.max(need(1, m, w) - w, 1);
        } else if (kind == 4) {
            return need(2, m, w) * 2;
        }
        return (int) Math.ceil(need(3, m, w) / 2.0);
    }

    private static int staying(int kind, int size, int sieve, int mesh, int wet) {
        int n = 0;
        for (int p = 0; p < 5; p++) {
            n += size(kind, size, p) >= need(sieve, mesh, wet) ? 1 : 0;
        }
        return n;
    }

    private static int bits(State s, int i, int h) {
        int[] g = s.guests.get(i);
        int[] o = s.houses.get(h);
        int bits = 0;
        for (int p = 0; p < 5; p++) {
            bits += size(g[0], g[1], p) >= need(o[0], o[1], s.hour.wet) ? 1 << p : 0;
        }
        return bits;
    }

    private static int parts(State s, int i, int h) {
        return Integer.bitCount(bits(s, i, h));
    }

    private static int company(State s, List<Integer> at, int h) {
        int sum = 0;
        for (int i = 0; i < s.guests.size(); i++) {
            sum += at.get(i) == h ? parts(s, i, h) : 0;
        }
        return sum;
    }

    private static int pairs(State s, List<Integer> at, int h) {
        int sum = 0;
        for (int i = 0; i < s.guests.size(); i++) {
            for (int j = 0; j < i; j++) {
                boolean both = at.get(i) == h && at.get(j) == h;
                sum += both && parts(s, i, h) > 0 && parts(s, j, h) > 0 ? 1 : 0;
            }
        }
        return sum;
    }

    private static void night(State s) {
        for (int h = 0; h < s.houses.size(); h++) {
            int more = company(s, s.hour.at, h) + 2 * pairs(s, s.hour.at, h);
            s.hour.liking.set(h, Math.min(9999, s.hour.liking.get(h) + more));
        }
        s.hour.evening++;
    }

    private static void nights(State s, int n) {
        for (int k = 0; k < n; k++) {
            if (s.hour.evening < 999) {
                night(s);
            }
        }
    }

    private static int liking(State s) {
        int sum = 0;
        for (int x : s.hour.liking) {
            sum += x;
        }
        return sum;
    }

    // ---- uplands

    int uplands(int w) {
        if (!in(w, 0, 4)) {
            return bad();
        }
        int n = s.guests.size();
        s = new State();
        s.hour.wet = w;
        return n;
    }

    int guest(int kind, int size) {
        if (!in(kind, 0, 5) || !in(size, 1, 30)) {
            return bad();
        }
        if (s.guests.size() == 6) {
            return full();
        }
        s.guests.add(new int[] {kind, size});
        s.hour.at.add(NONE);
        s.past.clear();
        return s.guests.size() - 1;
    }

    int house(int kind, int mesh) {
        if (!in(kind, 0, 5) || !in(mesh, 1, 30)) {
            return bad();
        }
        if (s.houses.size() == 4) {
            return full();
        }
        s.houses.add(new int[] {kind, mesh});
        s.hour.liking.add(0);
        s.past.clear();
        return s.houses.size() - 1;
    }

    int type(int c) {
        if (!in(c, 0, 127)) {
            return bad();
        }
        if (text.length() == 150) {
            return full();
        }
        text += (char) c;
        return text.length();
    }

    int clear() {
        int n = text.length();
        text = "";
        return n;
    }

    private static final Pattern TOKEN = Pattern.compile(" *([a-z]+|[0-9]+|[^ ])", Pattern.DOTALL);

    int read() {
        List<String> tokens = new ArrayList<>();
        List<Integer> places = new ArrayList<>();
        Matcher m = TOKEN.matcher(text);
        while (m.find()) {
            tokens.add(m.group(1));
            places.add(m.start(1));
        }
        tokens.add("");
        places.add(text.length());
        State draft = new State();
        int k = 0;
        int items = 0;
        while (items == 0 || !tokens.get(k).isEmpty()) {
            int used = item(draft, tokens.subList(k, tokens.size()), items == 0);
            if (used < 0) {
                return -10 - places.get(k - used - 1);
            }
            k += used;
            items++;
        }
        s = draft;
        s.past.clear();
        return items;
    }

    /** How many tokens the item has; or -1 less the token that can not stand there. */
    private static int item(State d, List<String> t, boolean first) {
        String word = t.get(0);
        if (first != word.equals("uplands")) {
            return -1;
        }
        int[][] ranges;
        switch (word) {
            case "uplands": ranges = new int[][] {{0, 4}}; break;
            case "guest": ranges = d.guests.size() < 6 ? new int[][] {{0, 5}, {1, 30}} : null; break;
            case "house": ranges = d.houses.size() < 4 ? new int[][] {{0, 5}, {1, 30}} : null; break;
            case "call": ranges = new int[][] {{0, d.guests.size() - 1}, {0, d.houses.size() - 1}}; break;
            case "home": ranges = new int[][] {{0, d.guests.size() - 1}}; break;
            case "evenings": ranges = new int[][] {{1, 99}}; break;
            default: ranges = null;
        }
        if (ranges == null) {
            return -1;
        }
        int[] n = new int[2];
        for (int k = 0; k < ranges.length; k++) {
            String token = t.get(k + 1);
            if (!token.matches("[0-9]{1,2}") || !in(Integer.parseInt(token), ranges[k][0], ranges[k][1])) {
                return -1 - (k + 1);
            }
            n[k] = Integer.parseInt(token);
        }
        if (!t.get(ranges.length + 1).equals(";")) {
            return -1 - (ranges.length + 1);
        }
        switch (word) {
            case "uplands": d.hour.wet = n[0]; break;
            case "guest": d.guests.add(new int[] {n[0], n[1]}); d.hour.at.add(NONE); break;
            case "house": d.houses.add(new int[] {n[0], n[1]}); d.hour.liking.add(0); break;
            case "call": d.hour.at.set(n[0], n[1]); break;
            case "home": d.hour.at.set(n[0], NONE); break;
            default: nights(d, n[0]);
        }
        return ranges.length + 2;
    }

    // ---- evenings

    int calls(int i, int h) {
        if (!guestIs(i) || !houseIs(h)) {
            return bad();
        }
        if (s.hour.at.get(i) == h) {
            return no();
        }
        s.remember();
        s.hour.at.set(i, h);
        return bits(s, i, h);
    }

    int leaves(int i) {
        if (!guestIs(i)) {
            return bad();
        }
        int h = s.hour.at.get(i);
        if (h < 0) {
            return no();
        }
        s.remember();
        s.hour.at.set(i, NONE);
        return h;
    }

    int wets(int w) {
        if (!in(w, 0, 4)) {
            return bad();
        }
        int was = s.hour.wet;
        if (w == was) {
            return no();
        }
        s.remember();
        s.hour.wet = w;
        return was;
    }

    int evenings(int n) {
        if (!in(n, 1, 60)) {
            return bad();
        }
        s.remember();
        nights(s, n);
        return liking(s);
    }

    int undo() {
        if (s.past.isEmpty()) {
            return no();
        }
        s.hour = s.past.remove(s.past.size() - 1);
        return s.hour.evening;
    }

    int of(int i, int what) {
        if (!guestIs(i) || !in(what, 0, 3)) {
            return bad();
        }
        int at = s.hour.at.get(i);
        return new int[] {s.guests.get(i)[0], s.guests.get(i)[1], at, at < 0 ? 0 : bits(s, i, at)}[what];
    }

    int about(int h, int what) {
        if (!houseIs(h) || !in(what, 0, 4)) {
            return bad();
        }
        return new int[] {s.houses.get(h)[0], s.houses.get(h)[1], s.hour.liking.get(h),
            company(s, s.hour.at, h), pairs(s, s.hour.at, h)}[what];
    }

    // ---- what stays

    int great(int i, int p) {
        return guestIs(i) && in(p, 0, 4) ? size(s.guests.get(i)[0], s.guests.get(i)[1], p) : bad();
    }

    int stays(int i, int h) {
        return guestIs(i) && houseIs(h) ? bits(s, i, h) : bad();
    }

    int then(int h, int m) {
        if (!houseIs(h) || !in(m, 0, 60)) {
            return bad();
        }
        State later = s.copy();
        for (int k = 0; k < m; k++) {
            night(later);
        }
        return later.hour.liking.get(h);
    }

    int when(int h, int x) {
        if (!houseIs(h) || !in(x, 1, 999)) {
            return bad();
        }
        for (int m = 0; m <= 60; m++) {
            if (then(h, m) >= x) {
                return m;
            }
        }
        return NONE;
    }

    int most(int i, int what) {
        if (!guestIs(i) || !in(what, 0, 1)) {
            return bad();
        }
        int which = NONE;
        for (int h = s.houses.size() - 1; h >= 0; h--) {
            which = which < 0 || parts(s, i, h) >= parts(s, i, which) ? h : which;
        }
        return what == 0 ? which : which < 0 ? 0 : parts(s, i, which);
    }

    int round(int i) {
        if (!guestIs(i)) {
            return bad();
        }
        for (int n = 1; n <= 4; n++) {
            for (int set = 0; set < 1 << s.houses.size(); set++) {
                int all = 0;
                for (int h = 0; h < s.houses.size(); h++) {
                    all |= (set & 1 << h) != 0 ? bits(s, i, h) : 0;
                }
                if (Integer.bitCount(set) == n && all == 31) {
                    return set;
                }
            }
        }
        return NONE;
    }

    int mesh(int i, int h, int k) {
        if (!guestIs(i) || !houseIs(h) || !in(k, 0, 5)) {
            return bad();
        }
        int[] g = s.guests.get(i);
        int best = NONE;
        for (int m = 1; m <= 30; m++) {
            best = staying(g[0], g[1], s.houses.get(h)[0], m, s.hour.wet) >= k ? m : best;
        }
        return best;
    }

    int place(int i) {
        if (i != NONE && !guestIs(i)) {
            bad();
            return -10;
        }
        int n = s.guests.size();
        int choices = s.houses.size() + 1;
        int best = -1;
        List<Integer> bestWay = null;
        for (int code = 0; code < Math.round(Math.pow(choices, n)); code++) {
            Integer[] way = new Integer[n];
            int rest = code;
            for (int g = n - 1; g >= 0; g--) {
                way[g] = rest % choices - 1;
                rest /= choices;
            }
            int more = 0;
            for (int h = 0; h < s.houses.size(); h++) {
                more += company(s, Arrays.asList(way), h) + 2 * pairs(s, Arrays.asList(way), h);
            }
            if (more > best) {
                best = more;
                bestWay = Arrays.asList(way);
            }
        }
        return i == NONE ? best : bestWay.get(i);
    }

    // ---- how great it was

    int seen(int i, int h, int w, int k) {
        if (!guestIs(i) || !houseIs(h) || !in(w, 0, 4) || !in(k, 0, 5)) {
            return bad();
        }
        if (s.seen.size() == 5) {
            return full();
        }
        s.seen.add(new int[] {i, h, w, k});
        return s.seen.size();
    }

    private List<Integer> sizesOf(int i) {
        List<Integer> sizes = new ArrayList<>();
        for (int size = 1; size <= 30; size++) {
            boolean so = true;
            for (int[] r : s.seen) {
                int[] o = s.houses.get(r[1]);
                so &= r[0] != i || staying(s.guests.get(i)[0], size, o[0], o[1], r[2]) == r[3];
            }
            if (so) {
                sizes.add(size);
            }
        }
        return sizes;
    }

    int sizes(int i, int what) {
        if (!guestIs(i) || !in(what, 0, 2)) {
            return bad();
        }
        List<Integer> sizes = sizesOf(i);
        if (what == 0) {
            return sizes.size();
        }
        return sizes.isEmpty() ? NONE : sizes.get(what == 1 ? 0 : sizes.size() - 1);
    }

    int tell(int i) {
        if (!guestIs(i)) {
            return bad();
        }
        List<Integer> sizes = sizesOf(i);
        int best = NONE;
        int fewest = 99;
        for (int h = 0; h < s.houses.size() && !sizes.isEmpty(); h++) {
            int[] o = s.houses.get(h);
            int[] groups = new int[6];
            for (int size : sizes) {
                groups[staying(s.guests.get(i)[0], size, o[0], o[1], s.hour.wet)]++;
            }
            int largest = Arrays.stream(groups).max().getAsInt();
            if (largest < fewest) {
                fewest = largest;
                best = h;
            }
        }
        return best;
    }

    int note(int i, int size, int p, int x) {
        if (!guestIs(i) || !in(size, 1, 30) || !in(p, 0, 4) || !in(x, 0, 60)) {
            return bad();
        }
        if (s.notes.size() == 6) {
            return full();
        }
        s.notes.add(new int[] {i, size, p, x});
        return s.notes.size();
    }

    int mark(int h, int m, int w, int x, int stayed) {
        if (!houseIs(h) || !in(m, 1, 30) || !in(w, 0, 4) || !in(x, 0, 60) || !in(stayed, 0, 1)) {
            return bad();
        }
        if (s.marks.size() == 6) {
            return full();
        }
        s.marks.add(new int[] {h, m, w, x, stayed});
        return s.marks.size();
    }

    int forget(int what) {
        if (!in(what, 0, 2)) {
            return bad();
        }
        List<int[]> rows = what == 0 ? s.seen : what == 1 ? s.notes : s.marks;
        int n = rows.size();
        rows.clear();
        return n;
    }

    private List<Integer> guestKinds(int i) {
        List<Integer> kinds = new ArrayList<>();
        for (int kind = 0; kind < 6; kind++) {
            int k = kind;
            if (s.notes.stream().allMatch(r -> r[0] != i || size(k, r[1], r[2]) == r[3])) {
                kinds.add(kind);
            }
        }
        return kinds;
    }

    private List<Integer> sieveKinds(int h) {
        List<Integer> kinds = new ArrayList<>();
        for (int kind = 0; kind < 6; kind++) {
            int k = kind;
            if (s.marks.stream().allMatch(r -> r[0] != h || r[3] >= need(k, r[1], r[2]) == (r[4] == 1))) {
                kinds.add(kind);
            }
        }
        return kinds;
    }

    private static int asBits(List<Integer> kinds) {
        return kinds.stream().mapToInt(k -> 1 << k).sum();
    }

    int is(int i) {
        return guestIs(i) ? asBits(guestKinds(i)) : bad();
    }

    int look(int i) {
        if (!guestIs(i)) {
            return bad();
        }
        List<Integer> kinds = guestKinds(i);
        int best = NONE;
        int fewest = 99;
        for (int p = 0; p < 5 && !kinds.isEmpty(); p++) {
            int[] groups = new int[40];
            for (int kind : kinds) {
                groups[size(kind, s.guests.get(i)[1], p)]++;
            }
            int largest = Arrays.stream(groups).max().getAsInt();
            if (largest < fewest) {
                fewest = largest;
                best = p;
            }
        }
        return best;
    }

    int kinds(int h) {
        return houseIs(h) ? asBits(sieveKinds(h)) : bad();
    }

    int ask(int h) {
        if (!houseIs(h)) {
            return bad();
        }
        List<Integer> kinds = sieveKinds(h);
        int best = NONE;
        long fewest = 99;
        for (int q = 0; q <= 460 && !kinds.isEmpty(); q++) {
            int w = q / 100;
            int x = q % 100;
            long stay = kinds.stream().filter(k -> x >= need(k, s.houses.get(h)[1], w)).count();
            long greater = Math.max(stay, kinds.size() - stay);
            if (x <= 60 && greater < fewest) {
                fewest = greater;
                best = q;
            }
        }
        return best;
    }

    private int gain(int own, int ownMesh, int other, int otherMesh, int i) {
        int[] g = s.guests.get(i);
        int mine = staying(g[0], g[1], s.houses.get(own)[0], ownMesh, s.hour.wet);
        int theirs = staying(g[0], g[1], s.houses.get(other)[0], otherMesh, s.hour.wet);
        return mine - (theirs >= mine ? 2 : 0);
    }

    int rivals(int a, int b, int i, int k) {
        if (!houseIs(a) || !houseIs(b) || a == b || !guestIs(i) || k < -1) {
            bad();
            return -10;
        }
        List<Integer> resting = new ArrayList<>();
        for (int m = 1; m <= 9; m++) {
            for (int n = 1; n <= 9; n++) {
                boolean rests = true;
                for (int t = 1; t <= 9; t++) {
                    rests &= gain(a, t, b, n, i) <= gain(a, m, b, n, i);
                    rests &= gain(b, t, a, m, i) <= gain(b, n, a, m, i);
                }
                if (rests) {
                    resting.add(10 * m + n);
                }
            }
        }
        return k == NONE ? resting.size() : k < resting.size() ? resting.get(k) : -5;
    }

    int rain(int i, int c) {
        if (!guestIs(i) || !in(c, 0, 10)) {
            return bad();
        }
        int sum = 0;
        for (int[] o : s.houses) {
            int[] g = s.guests.get(i);
            sum += c * staying(g[0], g[1], o[0], o[1], 4) + (10 - c) * staying(g[0], g[1], o[0], o[1], 0);
        }
        BigInteger common = BigInteger.valueOf(sum).gcd(BigInteger.TEN);
        above = BigInteger.valueOf(sum).divide(common);
        below = BigInteger.TEN.divide(common);
        return 1;
    }

    int years(int seed, int n) {
        if (!in(seed, 0, 999999) || !in(n, 0, 60)) {
            return bad();
        }
        State later = s.copy();
        BigInteger x = BigInteger.valueOf(seed);
        for (int k = 0; k < n; k++) {
            x = x.multiply(BigInteger.valueOf(1103515245)).add(BigInteger.valueOf(12345)).mod(BigInteger.ONE.shiftLeft(31));
            int i = x.shiftRight(16).mod(BigInteger.valueOf(6)).intValue();
            int h = x.shiftRight(20).mod(BigInteger.valueOf(4)).intValue();
            if (i < later.guests.size()) {
                later.hour.at.set(i, h < later.houses.size() ? h : NONE);
            }
            night(later);
        }
        return liking(later);
    }

    // ---- what there is

    long part(int what) {
        return what == 0 ? above.longValue() : what == 1 ? below.longValue() : bad();
    }

    int image(int i) {
        if (!in(i, 0, 1)) {
            return bad();
        }
        images[i] = s.copy();
        return 1;
    }

    int from(int i) {
        if (!in(i, 0, 1)) {
            return bad();
        }
        if (images[i] == null) {
            return no();
        }
        s = images[i].copy();
        return 1;
    }

    int status(int what) {
        if (!in(what, 0, 2)) {
            bad();
            return -1;
        }
        return refused[what];
    }

    private int[] counts() {
        int away = (int) s.hour.at.stream().filter(h -> h >= 0).count();
        return new int[] {s.guests.size(), s.houses.size(), s.hour.evening, s.hour.wet, away, liking(s),
            s.seen.size(), s.notes.size(), s.marks.size(), s.past.size(), text.length()};
    }

    int count(int what) {
        return in(what, 0, 10) ? counts()[what] : bad();
    }

    long digest() {
        List<Long> numbers = new ArrayList<>();
        for (int v : counts()) {
            numbers.add((long) v);
        }
        for (int i = 0; i < s.guests.size(); i++) {
            numbers.add((long) s.guests.get(i)[0]);
            numbers.add((long) s.guests.get(i)[1]);
            numbers.add((long) s.hour.at.get(i));
        }
        for (int h = 0; h < s.houses.size(); h++) {
            numbers.add((long) s.houses.get(h)[0]);
            numbers.add((long) s.houses.get(h)[1]);
            numbers.add((long) s.hour.liking.get(h));
        }
        for (List<int[]> rows : List.of(s.seen, s.notes, s.marks)) {
            for (int[] row : rows) {
                for (int v : row) {
                    numbers.add((long) v);
                }
            }
        }
        numbers.add(above.longValue());
        numbers.add(below.longValue());
        long h = 1627;
        for (long v : numbers) {
            h = 31 * h + v;
        }
        return h;
    }
}
