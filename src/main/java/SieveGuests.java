/** Guests who are sieved at the gate of each house: what a call promises stands in ../shared/DOC.md. */
public final class SieveGuests {
    public static final int NONE = -1, BAD = -2, NO = -3, FULL = -4;

    /** Answers that the document tells apart: BAD of a call whose answers may be -2, and a k-th that is not. */
    private static final int WRONG = -10, TOO_FEW = -5;

    private static final int MOST_GUESTS = 6, MOST_HOUSES = 4, MOST_SEEN = 5, MOST_NOTES = 6, MOST_MARKS = 6;
    private static final int MOST_STEPS = 8, IMAGES = 2, MOST_BYTES = 150, LAST_BYTE = 127;
    private static final int PARTS = 5, KINDS = 6, GREATEST = 30, WETTEST = 4, GREATEST_PART = 60;
    private static final int MOST_LIKING = 9999, LAST_EVENING = 999, MOST_AHEAD = 60, MOST_WISHED = 999;
    private static final int LAST_SEED = 999999, TENTHS = 10, RIVAL_MESHES = 9, REASONS = 3, LAST_COUNT = 10;

    private final Uplands land = new Uplands();
    /** Uplands to try things on: those of a text until it proves to be sound, those of years to come. */
    private final Uplands spare = new Uplands();
    private final Uplands[] images = new Uplands[IMAGES];
    private final Reader reader = new Reader();
    private final Guesses guesses = new Guesses();
    private final Seating seating = new Seating();
    private final Contest contest = new Contest();
    private final int[] refused = new int[REASONS];
    private int above = 0;
    private int below = 1;

    public SieveGuests() {
    }

    // ---- uplands

    public int uplands(int w) {
        if (!within(w, 0, WETTEST)) {
            return refuse(BAD);
        }
        int before = land.guests;
        land.startAnew(w);
        return before;
    }

    public int guest(int kind, int size) {
        if (!within(kind, 0, KINDS - 1) || !within(size, 1, GREATEST)) {
            return refuse(BAD);
        }
        if (land.guests >= MOST_GUESTS) {
            return refuse(FULL);
        }
        return land.addGuest(kind, size);
    }

    public int house(int kind, int mesh) {
        if (!within(kind, 0, KINDS - 1) || !within(mesh, 1, GREATEST)) {
            return refuse(BAD);
        }
        if (land.houses >= MOST_HOUSES) {
            return refuse(FULL);
        }
        return land.addHouse(kind, mesh);
    }

    public int type(int c) {
        if (!within(c, 0, LAST_BYTE)) {
            return refuse(BAD);
        }
        if (reader.length >= MOST_BYTES) {
            return refuse(FULL);
        }
        return reader.addByte(c);
    }

    public int clear() {
        int before = reader.length;
        reader.length = 0;
        return before;
    }

    public int read() {
        spare.startAnew(0);
        reader.next = 0;
        for (int items = 0; items <= MOST_BYTES; items++) {
            reader.step();
            if (items > 0 && reader.token == Reader.END) {
                land.takeFrom(spare);
                return items;
            }
            if (!reader.readItem(spare, items == 0)) {
                return WRONG - reader.start;
            }
            reader.carryOut(spare);
        }
        return WRONG - reader.length;
    }

    // ---- evenings

    public int calls(int i, int h) {
        if (!land.hasGuest(i) || !land.hasHouse(h)) {
            return refuse(BAD);
        }
        if (get(land.places, i) == h) {
            return refuse(NO);
        }
        land.keepStep();
        put(land.places, i, h);
        return land.stayBits(i, h);
    }

    public int leaves(int i) {
        if (!land.hasGuest(i)) {
            return refuse(BAD);
        }
        int before = get(land.places, i);
        if (before == NONE) {
            return refuse(NO);
        }
        land.keepStep();
        put(land.places, i, NONE);
        return before;
    }

    public int wets(int w) {
        if (!within(w, 0, WETTEST)) {
            return refuse(BAD);
        }
        int before = land.wet;
        if (before == w) {
            return refuse(NO);
        }
        land.keepStep();
        land.wet = w;
        return before;
    }

    public int evenings(int n) {
        if (!within(n, 1, MOST_AHEAD)) {
            return refuse(BAD);
        }
        land.keepStep();
        land.passEvenings(n);
        return land.allLiking();
    }

    public int undo() {
        if (land.steps.used == 0) {
            return refuse(NO);
        }
        land.stepBack();
        return land.evening;
    }

    public int of(int i, int what) {
        if (!land.hasGuest(i) || !within(what, 0, 3)) {
            return refuse(BAD);
        }
        switch (what) {
            case 0:
                return get(land.guestKinds, i);
            case 1:
                return get(land.guestSizes, i);
            case 2:
                return get(land.places, i);
            default:
                return land.stayBits(i, get(land.places, i));
        }
    }

    public int about(int h, int what) {
        if (!land.hasHouse(h) || !within(what, 0, 4)) {
            return refuse(BAD);
        }
        switch (what) {
            case 0:
                return get(land.houseKinds, h);
            case 1:
                return get(land.meshes, h);
            case 2:
                return get(land.likings, h);
            case 3:
                return land.company(h);
            default:
                return land.pairs(h);
        }
    }

    // ---- what stays

    public int great(int i, int p) {
        if (!land.hasGuest(i) || !within(p, 0, PARTS - 1)) {
            return refuse(BAD);
        }
        return Sieving.partSize(get(land.guestKinds, i), get(land.guestSizes, i), p);
    }

    public int stays(int i, int h) {
        if (!land.hasGuest(i) || !land.hasHouse(h)) {
            return refuse(BAD);
        }
        return land.stayBits(i, h);
    }

    public int then(int h, int m) {
        if (!land.hasHouse(h) || !within(m, 0, MOST_AHEAD)) {
            return refuse(BAD);
        }
        return land.likingAfter(h, m);
    }

    public int when(int h, int x) {
        if (!land.hasHouse(h) || !within(x, 1, MOST_WISHED)) {
            return refuse(BAD);
        }
        for (int m = 0; m <= MOST_AHEAD; m++) {
            if (land.likingAfter(h, m) >= x) {
                return m;
            }
        }
        return NONE;
    }

    public int most(int i, int what) {
        if (!land.hasGuest(i) || !within(what, 0, 1)) {
            return refuse(BAD);
        }
        int best = NONE;
        int mostParts = 0;
        for (int h = 0; h < land.houses; h++) {
            int parts = land.stayCount(i, h);
            if (best == NONE || parts > mostParts) {
                best = h;
                mostParts = parts;
            }
        }
        return what == 0 ? best : mostParts;
    }

    public int round(int i) {
        if (!land.hasGuest(i)) {
            return refuse(BAD);
        }
        int best = NONE;
        for (int set = 1; set < 1 << land.houses; set++) {
            boolean fewer = best == NONE || Integer.bitCount(set) < Integer.bitCount(best);
            if (fewer && land.stayRound(i, set) == (1 << PARTS) - 1) {
                best = set;
            }
        }
        return best;
    }

    public int mesh(int i, int h, int k) {
        if (!land.hasGuest(i) || !land.hasHouse(h) || !within(k, 0, PARTS)) {
            return refuse(BAD);
        }
        for (int m = GREATEST; m >= 1; m--) {
            if (land.stayCountByMesh(i, h, m) >= k) {
                return m;
            }
        }
        return NONE;
    }

    public int place(int i) {
        if (i != NONE && !land.hasGuest(i)) {
            refuse(BAD);
            return WRONG;
        }
        seating.findBest(land);
        return i == NONE ? seating.most : get(seating.best, i);
    }

    // ---- how great it was

    public int seen(int i, int h, int w, int k) {
        if (!land.hasGuest(i) || !land.hasHouse(h) || !within(w, 0, WETTEST) || !within(k, 0, PARTS)) {
            return refuse(BAD);
        }
        if (land.seenRows.isFull()) {
            return refuse(FULL);
        }
        land.seenRows.open();
        land.seenRows.fill(i, h, w, k);
        return land.seenRows.used;
    }

    public int sizes(int i, int what) {
        if (!land.hasGuest(i) || !within(what, 0, 2)) {
            return refuse(BAD);
        }
        int bits = guesses.sizeBits(land, i);
        if (what == 0) {
            return Integer.bitCount(bits);
        }
        return what == 1 ? lowestBit(bits) : highestBit(bits);
    }

    public int tell(int i) {
        if (!land.hasGuest(i)) {
            return refuse(BAD);
        }
        return guesses.bestHouse(land, i);
    }

    public int note(int i, int s, int p, int x) {
        boolean told = within(s, 1, GREATEST) && within(p, 0, PARTS - 1) && within(x, 0, GREATEST_PART);
        if (!land.hasGuest(i) || !told) {
            return refuse(BAD);
        }
        if (land.noteRows.isFull()) {
            return refuse(FULL);
        }
        land.noteRows.open();
        land.noteRows.fill(i, s, p, x);
        return land.noteRows.used;
    }

    public int mark(int h, int m, int w, int x, int stayed) {
        boolean told = within(m, 1, GREATEST) && within(w, 0, WETTEST) && within(x, 0, GREATEST_PART);
        if (!land.hasHouse(h) || !told || !within(stayed, 0, 1)) {
            return refuse(BAD);
        }
        if (land.markRows.isFull()) {
            return refuse(FULL);
        }
        land.markRows.open();
        land.markRows.fill(h, m, w, x);
        land.markRows.set(4, stayed);
        return land.markRows.used;
    }

    public int forget(int what) {
        if (!within(what, 0, 2)) {
            return refuse(BAD);
        }
        switch (what) {
            case 0:
                return land.seenRows.drop();
            case 1:
                return land.noteRows.drop();
            default:
                return land.markRows.drop();
        }
    }

    public int is(int i) {
        if (!land.hasGuest(i)) {
            return refuse(BAD);
        }
        return guesses.guestKindBits(land, i);
    }

    public int look(int i) {
        if (!land.hasGuest(i)) {
            return refuse(BAD);
        }
        return guesses.bestPart(land, i);
    }

    public int kinds(int h) {
        if (!land.hasHouse(h)) {
            return refuse(BAD);
        }
        return guesses.sieveKindBits(land, h);
    }

    public int ask(int h) {
        if (!land.hasHouse(h)) {
            return refuse(BAD);
        }
        return guesses.bestQuestion(land, h);
    }

    public int rivals(int a, int b, int i, int k) {
        if (!land.hasHouse(a) || !land.hasHouse(b) || a == b || !land.hasGuest(i) || k < NONE) {
            refuse(BAD);
            return WRONG;
        }
        contest.setUp(land, a, b, i);
        return contest.restingPair(k);
    }

    public int rain(int i, int c) {
        if (!land.hasGuest(i) || !within(c, 0, TENTHS)) {
            return refuse(BAD);
        }
        int sum = 0;
        for (int h = 0; h < land.houses; h++) {
            sum += c * land.stayCountByWet(i, h, WETTEST) + (TENTHS - c) * land.stayCountByWet(i, h, 0);
        }
        keepFraction(sum);
        return 1;
    }

    public int years(int seed, int n) {
        if (!within(seed, 0, LAST_SEED) || !within(n, 0, MOST_AHEAD)) {
            return refuse(BAD);
        }
        spare.takeFrom(land);
        // Those evenings go beyond the last one, so they are numbered from the first.
        spare.evening = 0;
        long x = seed;
        for (int k = 0; k < n; k++) {
            x = (x * 1103515245L + 12345L) % 2147483648L;
            int i = (int) (x / 65536L % MOST_GUESTS);
            int h = (int) (x / 1048576L % MOST_HOUSES);
            if (spare.hasGuest(i)) {
                put(spare.places, i, spare.hasHouse(h) ? h : NONE);
            }
            spare.passEvenings(1);
        }
        return spare.allLiking();
    }

    // ---- what there is

    public long part(int what) {
        if (!within(what, 0, 1)) {
            return refuse(BAD);
        }
        return what == 0 ? above : below;
    }

    public int image(int i) {
        if (!within(i, 0, images.length - 1)) {
            return refuse(BAD);
        }
        // Made once for each number: what is made is never given back.
        if (images[i] == null) {
            images[i] = new Uplands();
        }
        images[i].takeFrom(land);
        return 1;
    }

    public int from(int i) {
        if (!within(i, 0, images.length - 1)) {
            return refuse(BAD);
        }
        if (images[i] == null) {
            return refuse(NO);
        }
        land.takeFrom(images[i]);
        return 1;
    }

    public int status(int what) {
        if (!within(what, 0, REASONS - 1)) {
            refuse(BAD);
            return -1;
        }
        return get(refused, what);
    }

    public int count(int what) {
        return within(what, 0, LAST_COUNT) ? countOf(what) : refuse(BAD);
    }

    public long digest() {
        long h = 1627L;
        for (int what = 0; what <= LAST_COUNT; what++) {
            h = 31L * h + countOf(what);
        }
        for (int i = 0; i < land.guests; i++) {
            h = 31L * h + get(land.guestKinds, i);
            h = 31L * h + get(land.guestSizes, i);
            h = 31L * h + get(land.places, i);
        }
        for (int k = 0; k < land.houses; k++) {
            h = 31L * h + get(land.houseKinds, k);
            h = 31L * h + get(land.meshes, k);
            h = 31L * h + get(land.likings, k);
        }
        h = land.seenRows.mixInto(h);
        h = land.noteRows.mixInto(h);
        h = land.markRows.mixInto(h);
        return 31L * (31L * h + above) + below;
    }

    // ---- behind the face

    private int countOf(int what) {
        switch (what) {
            case 0:
                return land.guests;
            case 1:
                return land.houses;
            case 2:
                return land.evening;
            case 3:
                return land.wet;
            case 4:
                return land.awayFromHome();
            case 5:
                return land.allLiking();
            case 6:
                return land.seenRows.used;
            case 7:
                return land.noteRows.used;
            case 8:
                return land.markRows.used;
            case 9:
                return land.steps.used;
            default:
                return reader.length;
        }
    }

    private int refuse(int reason) {
        int k = BAD - reason;
        put(refused, k, get(refused, k) + 1);
        return reason;
    }

    /** THE FRACTION becomes so many tenths, in lowest terms. */
    private void keepFraction(int tenths) {
        int common = 1;
        for (int d = 2; d <= TENTHS; d++) {
            if (tenths % d == 0 && TENTHS % d == 0) {
                common = d;
            }
        }
        above = tenths / common;
        below = TENTHS / common;
    }

    private static boolean within(int x, int least, int most) {
        return x >= least && x <= most;
    }

    private static boolean hasBit(int bits, int k) {
        return (bits >> k & 1) == 1;
    }

    private static int lowestBit(int bits) {
        for (int k = 0; k <= GREATEST; k++) {
            if (hasBit(bits, k)) {
                return k;
            }
        }
        return NONE;
    }

    private static int highestBit(int bits) {
        for (int k = GREATEST; k >= 0; k--) {
            if (hasBit(bits, k)) {
                return k;
            }
        }
        return NONE;
    }

    /** Every number of a row is looked up here, so that no index goes untested. */
    private static int get(int[] row, int k) {
        return row != null && k >= 0 && k < row.length ? row[k] : 0;
    }

    private static void put(int[] row, int k, int x) {
        if (row != null && k >= 0 && k < row.length) {
            row[k] = x;
        }
    }

    private static void copyRow(int[] source, int[] target) {
        if (source != null && target != null) {
            System.arraycopy(source, 0, target, 0, Math.min(source.length, target.length));
        }
    }

    /** How great parts are, and how great they must be: the kinds of both stand over one another. */
    private static final class Sieving {
        static int partSize(int kind, int size, int p) {
            int plain = size;
            int bishop = plain > 2 * p ? plain - 2 * p : 1;
            int child = (plain + 1) / 2;
            switch (kind) {
                case 1:
                    return bishop;
                case 2:
                    return child;
                case 3:
                    return p % 2 == 1 ? 0 : bishop;
                case 4:
                    return plain + p;
                case 5:
                    return p >= 2 ? 1 : child;
                default:
                    return plain;
            }
        }

        /** How great a part must be to stay, at least. */
        static int least(int kind, int mesh, int wet) {
            int horsehair = mesh;
            int silk = horsehair > 3 ? horsehair - 3 : 1;
            int coarse = horsehair + 4;
            int wetted = silk > wet ? silk - wet : 1;
            switch (kind) {
                case 1:
                    return silk;
                case 2:
                    return coarse;
                case 3:
                    return wetted;
                case 4:
                    return 2 * coarse;
                case 5:
                    return (wetted + 1) / 2;
                default:
                    return horsehair;
            }
        }

        /** The parts of one that are as great as that, or greater, as bits. */
        static int partsFrom(int kind, int size, int least) {
            int bits = 0;
            for (int p = 0; p < PARTS; p++) {
                if (partSize(kind, size, p) >= least) {
                    bits |= 1 << p;
                }
            }
            return bits;
        }
    }

    /** Rows of numbers, as they come, as many as there is room for. */
    private static final class Rows {
        final int most;
        final int width;
        final int[] cells;
        int used = 0;

        Rows(int most, int width) {
            this.most = Math.max(1, most);
            this.width = Math.max(1, width);
            this.cells = new int[this.most * this.width];
        }

        boolean isFull() {
            return used >= most;
        }

        /** A new row comes behind the others; the first one makes room for it, if there is none. */
        void open() {
            if (isFull()) {
                System.arraycopy(cells, width, cells, 0, cells.length - width);
                used = most - 1;
            }
            used++;
        }

        void set(int column, int x) {
            put(cells, (used - 1) * width + column, x);
        }

        void fill(int a, int b, int c, int d) {
            set(0, a);
            set(1, b);
            set(2, c);
            set(3, d);
        }

        int cell(int row, int column) {
            return get(cells, row * width + column);
        }

        int last(int column) {
            return cell(used - 1, column);
        }

        void closeLast() {
            used = Math.max(0, used - 1);
        }

        int drop() {
            int before = used;
            used = 0;
            return before;
        }

        void takeFrom(Rows other) {
            used = Math.min(other.used, most);
            copyRow(other.cells, cells);
        }

        long mixInto(long start) {
            long h = start;
            for (int k = 0; k < used * width; k++) {
                h = 31L * h + get(cells, k);
            }
            return h;
        }
    }

    /** All that an image keeps. */
    private static final class Uplands {
        final int[] guestKinds = new int[MOST_GUESTS];
        final int[] guestSizes = new int[MOST_GUESTS];
        final int[] places = new int[MOST_GUESTS];
        final int[] houseKinds = new int[MOST_HOUSES];
        final int[] meshes = new int[MOST_HOUSES];
        final int[] likings = new int[MOST_HOUSES];
        final Rows seenRows = new Rows(MOST_SEEN, 4);
        final Rows noteRows = new Rows(MOST_NOTES, 4);
        final Rows markRows = new Rows(MOST_MARKS, 5);
        /** What may be undone: where guests were, the liking, the wet, the evening ahead of each. */
        final Rows steps = new Rows(MOST_STEPS, MOST_GUESTS + MOST_HOUSES + 2);
        int guests = 0;
        int houses = 0;
        int wet = 0;
        int evening = 0;

        void startAnew(int w) {
            guests = 0;
            houses = 0;
            wet = w;
            evening = 0;
            seenRows.drop();
            noteRows.drop();
            markRows.drop();
            steps.drop();
        }

        void takeFrom(Uplands other) {
            copyRow(other.guestKinds, guestKinds);
            copyRow(other.guestSizes, guestSizes);
            copyRow(other.places, places);
            copyRow(other.houseKinds, houseKinds);
            copyRow(other.meshes, meshes);
            copyRow(other.likings, likings);
            seenRows.takeFrom(other.seenRows);
            noteRows.takeFrom(other.noteRows);
            markRows.takeFrom(other.markRows);
            steps.takeFrom(other.steps);
            guests = other.guests;
            houses = other.houses;
            wet = other.wet;
            evening = other.evening;
        }

        boolean hasGuest(int i) {
            return within(i, 0, guests - 1);
        }

        boolean hasHouse(int h) {
            return within(h, 0, houses - 1);
        }

        int addGuest(int kind, int size) {
            put(guestKinds, guests, kind);
            put(guestSizes, guests, size);
            put(places, guests, NONE);
            steps.drop();
            guests++;
            return guests - 1;
        }

        int addHouse(int kind, int mesh) {
            put(houseKinds, houses, kind);
            put(meshes, houses, mesh);
            put(likings, houses, 0);
            steps.drop();
            houses++;
            return houses - 1;
        }

        int awayFromHome() {
            int away = 0;
            for (int i = 0; i < guests; i++) {
                if (get(places, i) != NONE) {
                    away++;
                }
            }
            return away;
        }

        int allLiking() {
            int sum = 0;
            for (int h = 0; h < houses; h++) {
                sum += get(likings, h);
            }
            return sum;
        }

        int leastAt(int h) {
            return Sieving.least(get(houseKinds, h), get(meshes, h), wet);
        }

        /** The parts of a guest that would stay at a house now, as bits; none of them at home. */
        int stayBits(int i, int h) {
            return hasHouse(h) ? Sieving.partsFrom(get(guestKinds, i), get(guestSizes, i), leastAt(h)) : 0;
        }

        int stayCount(int i, int h) {
            return Integer.bitCount(stayBits(i, h));
        }

        int stayCountByMesh(int i, int h, int mesh) {
            int least = Sieving.least(get(houseKinds, h), mesh, wet);
            return Integer.bitCount(Sieving.partsFrom(get(guestKinds, i), get(guestSizes, i), least));
        }

        int stayCountByWet(int i, int h, int w) {
            return stayCountBySize(i, get(guestSizes, i), h, w);
        }

        int stayCountBySize(int i, int size, int h, int w) {
            int least = Sieving.least(get(houseKinds, h), get(meshes, h), w);
            return Integer.bitCount(Sieving.partsFrom(get(guestKinds, i), size, least));
        }

        /** The parts of a guest that stay somewhere on a round of these houses. */
        int stayRound(int i, int set) {
            int bits = 0;
            for (int h = 0; h < houses; h++) {
                if (hasBit(set, h)) {
                    bits |= stayBits(i, h);
                }
            }
            return bits;
        }

        int company(int h) {
            int least = leastAt(h);
            int parts = 0;
            for (int i = 0; i < guests; i++) {
                if (get(places, i) == h) {
                    parts += Integer.bitCount(Sieving.partsFrom(get(guestKinds, i), get(guestSizes, i), least));
                }
            }
            return parts;
        }

        int pairs(int h) {
            int least = leastAt(h);
            int sitting = 0;
            for (int i = 0; i < guests; i++) {
                boolean stays = Sieving.partsFrom(get(guestKinds, i), get(guestSizes, i), least) != 0;
                if (get(places, i) == h && stays) {
                    sitting++;
                }
            }
            return sitting * (sitting - 1) / 2;
        }

        int likingAfter(int h, int evenings) {
            int more = company(h) + 2 * pairs(h);
            return Math.min(MOST_LIKING, get(likings, h) + evenings * more);
        }

        void passEvenings(int n) {
            int passing = Math.min(n, LAST_EVENING - evening);
            for (int h = 0; h < houses; h++) {
                put(likings, h, likingAfter(h, passing));
            }
            evening += passing;
        }

        void keepStep() {
            steps.open();
            for (int i = 0; i < MOST_GUESTS; i++) {
                steps.set(i, get(places, i));
            }
            for (int h = 0; h < MOST_HOUSES; h++) {
                steps.set(MOST_GUESTS + h, get(likings, h));
            }
            steps.set(MOST_GUESTS + MOST_HOUSES, wet);
            steps.set(MOST_GUESTS + MOST_HOUSES + 1, evening);
        }

        void stepBack() {
            for (int i = 0; i < MOST_GUESTS; i++) {
                put(places, i, steps.last(i));
            }
            for (int h = 0; h < MOST_HOUSES; h++) {
                put(likings, h, steps.last(MOST_GUESTS + h));
            }
            wet = steps.last(MOST_GUESTS + MOST_HOUSES);
            evening = steps.last(MOST_GUESTS + MOST_HOUSES + 1);
            steps.closeLast();
        }
    }

    /** What may be told from what was seen, noted and marked. */
    private static final class Guesses {
        final int[] groups = new int[PARTS + 1];

        /** Bit s: the guest may be of size s. */
        int sizeBits(Uplands land, int i) {
            int bits = 0;
            for (int s = 1; s <= GREATEST; s++) {
                if (sizeFits(land, i, s)) {
                    bits |= 1 << s;
                }
            }
            return bits;
        }

        boolean sizeFits(Uplands land, int i, int size) {
            Rows rows = land.seenRows;
            for (int r = 0; r < rows.used; r++) {
                boolean own = rows.cell(r, 0) == i;
                if (own && land.stayCountBySize(i, size, rows.cell(r, 1), rows.cell(r, 2)) != rows.cell(r, 3)) {
                    return false;
                }
            }
            return true;
        }

        int bestHouse(Uplands land, int i) {
            int bits = sizeBits(land, i);
            int best = NONE;
            int fewest = GREATEST + 1;
            for (int h = 0; bits != 0 && h < land.houses; h++) {
                int group = largestGroup(land, i, bits, h);
                if (group < fewest) {
                    fewest = group;
                    best = h;
                }
            }
            return best;
        }

        /** The most of these sizes by which as many parts stay at a house. */
        int largestGroup(Uplands land, int i, int bits, int h) {
            for (int k = 0; k <= PARTS; k++) {
                put(groups, k, 0);
            }
            int largest = 0;
            for (int s = 1; s <= GREATEST; s++) {
                if (hasBit(bits, s)) {
                    int k = land.stayCountBySize(i, s, h, land.wet);
                    put(groups, k, get(groups, k) + 1);
                    largest = Math.max(largest, get(groups, k));
                }
            }
            return largest;
        }

        int guestKindBits(Uplands land, int i) {
            int bits = 0;
            for (int kind = 0; kind < KINDS; kind++) {
                if (guestKindFits(land, i, kind)) {
                    bits |= 1 << kind;
                }
            }
            return bits;
        }

        boolean guestKindFits(Uplands land, int i, int kind) {
            Rows rows = land.noteRows;
            for (int r = 0; r < rows.used; r++) {
                boolean own = rows.cell(r, 0) == i;
                if (own && Sieving.partSize(kind, rows.cell(r, 1), rows.cell(r, 2)) != rows.cell(r, 3)) {
                    return false;
                }
            }
            return true;
        }

        int bestPart(Uplands land, int i) {
            int bits = guestKindBits(land, i);
            int best = NONE;
            int fewest = KINDS + 1;
            for (int p = 0; bits != 0 && p < PARTS; p++) {
                int alike = mostAlike(bits, get(land.guestSizes, i), p);
                if (alike < fewest) {
                    fewest = alike;
                    best = p;
                }
            }
            return best;
        }

        /** The most of these kinds by which a part is as great. */
        int mostAlike(int bits, int size, int p) {
            int most = 0;
            for (int kind = 0; kind < KINDS; kind++) {
                int alike = 0;
                for (int other = 0; hasBit(bits, kind) && other < KINDS; other++) {
                    boolean same = Sieving.partSize(kind, size, p) == Sieving.partSize(other, size, p);
                    if (hasBit(bits, other) && same) {
                        alike++;
                    }
                }
                most = Math.max(most, alike);
            }
            return most;
        }

        int sieveKindBits(Uplands land, int h) {
            int bits = 0;
            for (int kind = 0; kind < KINDS; kind++) {
                if (sieveKindFits(land, h, kind)) {
                    bits |= 1 << kind;
                }
            }
            return bits;
        }

        boolean sieveKindFits(Uplands land, int h, int kind) {
            Rows rows = land.markRows;
            for (int r = 0; r < rows.used; r++) {
                int least = Sieving.least(kind, rows.cell(r, 1), rows.cell(r, 2));
                int stayed = rows.cell(r, 3) >= least ? 1 : 0;
                if (rows.cell(r, 0) == h && stayed != rows.cell(r, 4)) {
                    return false;
                }
            }
            return true;
        }

        int bestQuestion(Uplands land, int h) {
            int bits = sieveKindBits(land, h);
            int best = NONE;
            int fewest = KINDS + 1;
            for (int w = 0; bits != 0 && w <= WETTEST; w++) {
                for (int x = 0; x <= GREATEST_PART; x++) {
                    int greater = greaterHalf(bits, get(land.meshes, h), w, x);
                    if (greater < fewest) {
                        fewest = greater;
                        best = 100 * w + x;
                    }
                }
            }
            return best;
        }

        /** How many of these kinds are left, at worst, when it is seen whether a part stays. */
        int greaterHalf(int bits, int mesh, int w, int x) {
            int staying = 0;
            for (int kind = 0; kind < KINDS; kind++) {
                if (hasBit(bits, kind) && x >= Sieving.least(kind, mesh, w)) {
                    staying++;
                }
            }
            return Math.max(staying, Integer.bitCount(bits) - staying);
        }
    }

    /** Who should call where. */
    private static final class Seating {
        final int[] parts = new int[MOST_GUESTS * MOST_HOUSES];
        final int[] sitting = new int[MOST_HOUSES];
        final int[] way = new int[MOST_GUESTS];
        final int[] best = new int[MOST_GUESTS];
        int guests = 0;
        int houses = 0;
        int most = 0;

        void findBest(Uplands land) {
            guests = land.guests;
            houses = land.houses;
            most = NONE;
            for (int i = 0; i < guests; i++) {
                for (int h = 0; h < houses; h++) {
                    put(parts, i * MOST_HOUSES + h, land.stayCount(i, h));
                }
            }
            for (int h = 0; h < houses; h++) {
                put(sitting, h, 0);
            }
            settle(this, 0, 0);
        }

        /**
         * Tries the ways for the guests from this one on, the first ways first; at most six guests deep.
         * One of whom something stays adds to any way, so only the others are ever best left at home.
         */
        private static void settle(Seating seats, int guest, int gain) {
            if (guest >= seats.guests || guest >= MOST_GUESTS) {
                seats.keepIfMore(gain);
                return;
            }
            boolean isWelcome = false;
            for (int h = 0; h < seats.houses; h++) {
                int staying = get(seats.parts, guest * MOST_HOUSES + h);
                if (staying > 0) {
                    int there = get(seats.sitting, h);
                    isWelcome = true;
                    put(seats.way, guest, h);
                    put(seats.sitting, h, there + 1);
                    settle(seats, guest + 1, gain + staying + 2 * there);
                    put(seats.sitting, h, there);
                }
            }
            if (!isWelcome) {
                put(seats.way, guest, NONE);
                settle(seats, guest + 1, gain);
            }
        }

        void keepIfMore(int gain) {
            if (gain > most) {
                most = gain;
                copyRow(way, best);
            }
        }
    }

    /** Two houses that choose their mesh: how many parts stay at each, by its mesh. */
    private static final class Contest {
        final int[] first = new int[RIVAL_MESHES + 1];
        final int[] second = new int[RIVAL_MESHES + 1];

        void setUp(Uplands land, int a, int b, int i) {
            for (int m = 1; m <= RIVAL_MESHES; m++) {
                put(first, m, land.stayCountByMesh(i, a, m));
                put(second, m, land.stayCountByMesh(i, b, m));
            }
        }

        /** The k-th pair that rests, or how many do (k is NONE). */
        int restingPair(int k) {
            int found = 0;
            for (int m = 1; m <= RIVAL_MESHES; m++) {
                for (int n = 1; n <= RIVAL_MESHES; n++) {
                    if (rests(m, n)) {
                        if (found == k) {
                            return 10 * m + n;
                        }
                        found++;
                    }
                }
            }
            return k == NONE ? found : TOO_FEW;
        }

        boolean rests(int m, int n) {
            int one = get(first, m);
            int other = get(second, n);
            for (int k = 1; k <= RIVAL_MESHES; k++) {
                boolean more = gets(get(first, k), other) > gets(one, other);
                if (more || gets(get(second, k), one) > gets(other, one)) {
                    return false;
                }
            }
            return true;
        }

        static int gets(int own, int others) {
            return others >= own ? own - 2 : own;
        }
    }

    /** THE TEXT, and how it is read, token by token. */
    private static final class Reader {
        private static final int END = 0, WORD = 1, NUMBER = 2, STOP = 3, OTHER = 4;
        private static final int UPLANDS = 0, GUEST = 1, HOUSE = 2, CALL = 3, HOME = 4, EVENINGS = 5, WORDS = 6;
        private static final int BLANK = 32, MOST_FIGURES = 2, MOST_TOLD_EVENINGS = 99;

        final int[] bytes = new int[MOST_BYTES];
        int length = 0;
        /** The byte behind the token, and its first one. */
        int next = 0;
        int start = 0;
        int token = END;
        /** Which word it is (NONE: none), what number. */
        int value = 0;
        /** The item that was read: its word, its numbers. */
        int word = NONE;
        int first = 0;
        int second = 0;

        int addByte(int c) {
            put(bytes, length, c);
            length++;
            return length;
        }

        /** From the token at which an item begins to its end, or to the token that can not stand there. */
        boolean readItem(Uplands draft, boolean isFirst) {
            word = token == WORD ? value : NONE;
            if (word == NONE || isFirst != (word == UPLANDS) || !hasRoom(draft)) {
                return false;
            }
            if (!readNumber(0, draft)) {
                return false;
            }
            first = value;
            if (hasTwoNumbers() && !readNumber(1, draft)) {
                return false;
            }
            second = value;
            step();
            return token == STOP;
        }

        boolean hasRoom(Uplands draft) {
            if (word == GUEST) {
                return draft.guests < MOST_GUESTS;
            }
            return word != HOUSE || draft.houses < MOST_HOUSES;
        }

        boolean hasTwoNumbers() {
            return word == GUEST || word == HOUSE || word == CALL;
        }

        /** The first number of an item (0), or the second (1). */
        boolean readNumber(int which, Uplands draft) {
            step();
            return token == NUMBER && within(value, leastTold(which), mostTold(which, draft));
        }

        int leastTold(int which) {
            boolean isGreatness = which == 1 && (word == GUEST || word == HOUSE);
            return isGreatness || word == EVENINGS ? 1 : 0;
        }

        int mostTold(int which, Uplands draft) {
            switch (word) {
                case UPLANDS:
                    return WETTEST;
                case GUEST:
                case HOUSE:
                    return which == 0 ? KINDS - 1 : GREATEST;
                case CALL:
                    return which == 0 ? draft.guests - 1 : draft.houses - 1;
                case HOME:
                    return draft.guests - 1;
                default:
                    return MOST_TOLD_EVENINGS;
            }
        }

        void carryOut(Uplands draft) {
            switch (word) {
                case UPLANDS:
                    draft.wet = first;
                    break;
                case GUEST:
                    draft.addGuest(first, second);
                    break;
                case HOUSE:
                    draft.addHouse(first, second);
                    break;
                case CALL:
                    put(draft.places, first, second);
                    break;
                case HOME:
                    put(draft.places, first, NONE);
                    break;
                default:
                    draft.passEvenings(first);
                    break;
            }
        }

        /** To the next token. */
        void step() {
            while (next < length && get(bytes, next) == BLANK) {
                next++;
            }
            start = next;
            int c = get(bytes, next);
            if (next >= length) {
                token = END;
            } else if (isLetter(c)) {
                takeWord();
            } else if (isFigure(c)) {
                takeNumber();
            } else {
                next++;
                token = c == ';' ? STOP : OTHER;
            }
        }

        void takeWord() {
            while (next < length && isLetter(get(bytes, next))) {
                next++;
            }
            token = WORD;
            value = NONE;
            for (int k = 0; k < WORDS; k++) {
                if (isSpelt(spelling(k))) {
                    value = k;
                }
            }
        }

        void takeNumber() {
            value = 0;
            while (next < length && isFigure(get(bytes, next))) {
                value = 10 * value + get(bytes, next) - '0';
                next++;
            }
            token = next - start <= MOST_FIGURES ? NUMBER : OTHER;
        }

        boolean isSpelt(String spelling) {
            if (spelling.length() != next - start) {
                return false;
            }
            for (int k = 0; k < spelling.length(); k++) {
                if (spelling.charAt(k) != get(bytes, start + k)) {
                    return false;
                }
            }
            return true;
        }

        static String spelling(int which) {
            switch (which) {
                case UPLANDS:
                    return "uplands";
                case GUEST:
                    return "guest";
                case HOUSE:
                    return "house";
                case CALL:
                    return "call";
                case HOME:
                    return "home";
                default:
                    return "evenings";
            }
        }

        static boolean isLetter(int c) {
            return within(c, 'a', 'z');
        }

        static boolean isFigure(int c) {
            return within(c, '0', '9');
        }
    }
}
