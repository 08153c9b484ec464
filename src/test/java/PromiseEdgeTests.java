import java.util.function.Supplier;

/**
 * For each promise what it refuses, in its order, with only STATUS another behind it; the answers that stand apart,
 * which are no refusals; the empty and the full. RangeTests have the numbers that are BAD.
 */
public final class PromiseEdgeTests {
    private static final int NONE = -1, BAD = -2, NO = -3, FULL = -4, WRONG = -10, TOO_FEW = -5;
    private static final int PLAIN = 0, BISHOP = 1, CHILD = 2, TINKER = 3, PARTY = 4, COUGH = 5;
    private static final int HORSEHAIR = 0, SILK = 1, COARSE = 2, WETTED = 3, OLD = 4;
    private static final int EVENING = 2, WET = 3, ALL_LIKING = 5, SEEN = 6, NOTES = 7, MARKS = 8, UNDONE = 9;
    private static final Supplier<SieveGuests> NOBODY = Scenes::nobody;
    private static final Supplier<SieveGuests> ALL_FULL = Scenes::full;
    private static final Supplier<SieveGuests> SEATED = () -> Scenes.seated(3, 2, 1);
    private static final Supplier<SieveGuests> AT_HOME = () -> Scenes.gathering(3, 2);
    private static final Supplier<SieveGuests> GUESTS_ALONE = () -> Scenes.gathering(3, 0);
    private static final Due DUE = new Due("PromiseEdgeTests");

    public static void main(String[] args) {
        newObject();
        uplands();
        nobodyIsLeft();
        guest();
        house();
        type();
        calls();
        leaves();
        wets();
        evenings();
        undo();
        of();
        about();
        then();
        when();
        most();
        round();
        mesh();
        place();
        seen();
        seenOfOne();
        sizes();
        tell();
        note();
        mark();
        forget();
        is();
        look();
        kinds();
        ask();
        rivals();
        rain();
        years();
        yearsWrapAround();
        yearsAreCut();
        part();
        image();
        from();
        statusOfEachReason();
        statusOfMany();
        status();
        count();
        digest();
        questions();
        DUE.end();
    }

    private static void due(String what, long got, long want) {
        DUE.is(what, got, want);
    }

    private static void refused(String what, Supplier<SieveGuests> scene, Twins.Call call, long answer, int reason) {
        Twins.refused(DUE, what, scene, call, answer, reason);
    }

    private static void changesNothing(String what, Supplier<SieveGuests> scene, Twins.Call call, long answer) {
        Twins.changesNothing(DUE, what, scene, call, answer);
    }

    // ---- uplands

    private static void newObject() {
        changesNothing("1: 'nobody is there': place", NOBODY, x -> x.place(NONE), 0);
        changesNothing("1: 'nobody is there': clear", NOBODY, SieveGuests::clear, 0);
        changesNothing("1: 'nobody is there': read", NOBODY, SieveGuests::read, -10);
        changesNothing("1: 'nobody is there': uplands", NOBODY, x -> x.uplands(0), 0);
        changesNothing("1: 'nobody is there': years", NOBODY, x -> x.years(999999, 60), 0);
        for (int what = 0; what < 3; what++) {
            int none = what;
            changesNothing("1: 'nobody is there': forget", NOBODY, x -> x.forget(none), 0);
        }
        refused("1: 'nobody is there': undo", NOBODY, SieveGuests::undo, NO, NO);
        SieveGuests x = new SieveGuests();
        due("1: 'nobody is there': evenings go by all the same", x.evenings(60), 0);
        due("1: 'nobody is there': an EVENING", x.count(EVENING), 60);
    }

    private static void uplands() {
        SieveGuests x = Scenes.full();
        due("2: 'how many GUESTS there were': all", x.uplands(0), 6);
        due("2: 'how many GUESTS there were': none", x.uplands(4), 0);
        due("2: 'all else as at first': no EVENING", x.count(EVENING), 0);
        due("2: 'all else as at first': nothing to undo", x.undo(), NO);
        x.guest(PLAIN, 5);
        due("2: 'how many GUESTS there were': one", x.uplands(4), 1);
        due("2: 'WET': the same again is not refused", x.count(WET), 4);
        due("2: no refusal but one", x.status(0) * 100 + x.status(1) * 10 + x.status(2), 10);
    }

    /** Where there were more guests and houses before, those that are gone are nobody's company. */
    private static void nobodyIsLeft() {
        SieveGuests x = Scenes.full();
        x.uplands(0);
        fewAlone("2: 'all else as at first'", x);
        SieveGuests y = new SieveGuests();
        Scenes.reads(y, "uplands0;house0 1;house0 1;guest0 9;guest0 9;guest0 9;call1 1;call2 1;");
        Scenes.reads(y, "uplands0;house0 1;house0 1;guest0 9;");
        nobodyThere("7: 'take the place of all'", y);
        SieveGuests z = new SieveGuests();
        z.image(0);
        for (int i = 0; i < 6; i++) {
            z.guest(PLAIN, 9);
        }
        z.house(HORSEHAIR, 1);
        z.house(HORSEHAIR, 1);
        for (int i = 0; i < 6; i++) {
            z.calls(i, 1);
        }
        z.evenings(9);
        z.from(0);
        fewAlone("38: 'it goes on from one'", z);
    }

    private static void fewAlone(String what, SieveGuests x) {
        x.house(HORSEHAIR, 1);
        x.house(HORSEHAIR, 1);
        nobodyThere(what + ": no GUEST yet", x);
        for (int i = 0; i < 4; i++) {
            x.guest(PLAIN, 9);
            nobodyThere(what + ": GUESTS " + (i + 1), x);
            x.calls(0, 1);
            due(what + ": PAIRS of one alone, of " + (i + 1), x.about(1, 4), 0);
            x.undo();
        }
    }

    private static void nobodyThere(String what, SieveGuests x) {
        due(what + ": nobody is AT a HOUSE", x.count(4), 0);
        for (int h = 0; h < 2; h++) {
            due(what + ": COMPANY", x.about(h, 3), 0);
            due(what + ": PAIRS", x.about(h, 4), 0);
            due(what + ": LIKING", x.then(h, 60), 0);
        }
    }

    private static void guest() {
        refused("3: 'FULL: 6': a seventh", ALL_FULL, x -> x.guest(5, 30), FULL, FULL);
        refused("3: 'FULL: 6': the least one", ALL_FULL, x -> x.guest(0, 1), FULL, FULL);
        refused("3: BAD, then FULL: its KIND", ALL_FULL, x -> x.guest(6, 30), BAD, BAD);
        refused("3: BAD, then FULL: its SIZE", ALL_FULL, x -> x.guest(5, 31), BAD, BAD);
        SieveGuests x = Scenes.gathering(5, 4);
        due("3: 'the number': the last", x.guest(5, 30), 5);
        due("3: 'FULL: 6': now", x.guest(5, 30), FULL);
    }

    private static void house() {
        refused("4: 'FULL: 4': a fifth", ALL_FULL, x -> x.house(5, 30), FULL, FULL);
        refused("4: 'FULL: 4': the least one", ALL_FULL, x -> x.house(0, 1), FULL, FULL);
        refused("4: BAD, then FULL: its KIND", ALL_FULL, x -> x.house(6, 30), BAD, BAD);
        refused("4: BAD, then FULL: its MESH", ALL_FULL, x -> x.house(5, 31), BAD, BAD);
        SieveGuests x = Scenes.gathering(6, 3);
        due("4: 'its number': the last", x.house(5, 30), 3);
        due("4: 'FULL: 4': now", x.house(5, 30), FULL);
    }

    private static void type() {
        refused("5: FULL: a 151st byte", ALL_FULL, x -> x.type(0), FULL, FULL);
        refused("5: FULL: another", ALL_FULL, x -> x.type(127), FULL, FULL);
        refused("5: BAD, then FULL: 128", ALL_FULL, x -> x.type(128), BAD, BAD);
        refused("5: BAD, then FULL: -1", ALL_FULL, x -> x.type(-1), BAD, BAD);
    }

    // ---- evenings

    private static void calls() {
        refused("8: 'NO: AT it already'", SEATED, x -> x.calls(0, 1), NO, NO);
        refused("8: 'NO: AT it already': the last", SEATED, x -> x.calls(2, 1), NO, NO);
        refused("8: 'NO: AT it already': all are full", ALL_FULL, x -> x.calls(5, 1), NO, NO);
        refused("8: no HOUSE", GUESTS_ALONE, x -> x.calls(0, 0), BAD, BAD);
        SieveGuests x = Scenes.one(PLAIN, 8, HORSEHAIR, 9);
        due("8: 'PARTS that STAY (bits)': none", x.calls(0, 0), 0);
        due("8: 'NO: AT it already': all of it in the kitchen", x.calls(0, 0), NO);
        x.leaves(0);
        due("8: 'NO: AT it already': no longer", x.calls(0, 0), 0);
        x.undo();
        x.undo();
        due("8: 'NO: AT it already': again, by what is undone", x.calls(0, 0), NO);
    }

    private static void leaves() {
        refused("9: 'NO: AT HOME'", AT_HOME, x -> x.leaves(0), NO, NO);
        refused("9: 'NO: AT HOME': the last", AT_HOME, x -> x.leaves(2), NO, NO);
        refused("9: BAD: one behind the last", AT_HOME, x -> x.leaves(3), BAD, BAD);
        SieveGuests x = Scenes.full();
        x.calls(5, 3);
        due("9: 'which HOUSE it was AT': the last", x.leaves(5), 3);
        due("9: 'NO: AT HOME': now", x.leaves(5), NO);
        x.calls(0, 0);
        due("9: 'which HOUSE it was AT': the first", x.leaves(0), 0);
    }

    private static void wets() {
        refused("10: 'NO: it is so': 2", AT_HOME, x -> x.wets(2), NO, NO);
        refused("10: 'NO: it is so': 0 at first", NOBODY, x -> x.wets(0), NO, NO);
        refused("10: BAD: 5", NOBODY, x -> x.wets(5), BAD, BAD);
        SieveGuests x = new SieveGuests();
        due("10: 'what it was': 0", x.wets(4), 0);
        due("10: 'NO: it is so': 4", x.wets(4), NO);
        due("10: 'what it was': 4", x.wets(0), 4);
    }

    private static void evenings() {
        refused("11: BAD: 0", ALL_FULL, x -> x.evenings(0), BAD, BAD);
        refused("11: BAD: 61", ALL_FULL, x -> x.evenings(61), BAD, BAD);
        SieveGuests x = Scenes.one(PLAIN, 5, HORSEHAIR, 1);
        x.calls(0, 0);
        due("11: '1 .. 60': 1", x.evenings(1), 5);
        due("11: '1 .. 60': 60", x.evenings(60), 305);
        due("11: 'together one that may be undone'", x.count(UNDONE), 3);
        Scenes.pass(x, 938);
        due("11: 'at 999 none goes by': 999", x.count(EVENING), 999);
        x.image(0);
        x.uplands(0);
        x.from(0);
        x.undo();
        int undone = x.count(UNDONE);
        x.evenings(60);
        due("11: 'at 999 none goes by': one that may be undone", x.count(UNDONE), undone + 1);
        due("11: 'also if none goes by': ahead of it", x.evenings(1), 4995);
        due("11: 'also if none goes by': one more that may be undone", x.undo(), 999);
        due("11: 'also if none goes by': LIKING", x.count(ALL_LIKING), 4995);
        due("11: 'also if none goes by': the one ahead of it", x.undo(), 961);
    }

    private static void undo() {
        refused("12: 'NO: none may be': nobody", NOBODY, SieveGuests::undo, NO, NO);
        refused("12: 'NO: none may be': a GUEST came", PromiseEdgeTests::newcomer, SieveGuests::undo, NO, NO);
        SieveGuests x = Scenes.full();
        for (int k = 8; k >= 1; k--) {
            due("12: 'UNDO': so many may be", x.count(UNDONE), k);
            DUE.holds("12: 'UNDO': the EVENING then", x.undo() >= 0);
        }
        due("12: 'NO: none may be': behind eight", x.undo(), NO);
        due("12: 'NO: none may be': and none", x.count(UNDONE), 0);
    }

    private static SieveGuests newcomer() {
        SieveGuests x = Scenes.seated(3, 2, 0);
        x.evenings(60);
        x.guest(PLAIN, 5);
        return x;
    }

    private static void of() {
        changesNothing("13: 'NONE: AT HOME'", AT_HOME, x -> x.of(0, 2), NONE);
        changesNothing("13: 'AT HOME 0'", AT_HOME, x -> x.of(0, 3), 0);
        changesNothing("13: 'the HOUSE'", SEATED, x -> x.of(2, 2), 1);
        refused("13: BAD: 4", SEATED, x -> x.of(0, 4), BAD, BAD);
    }

    private static void about() {
        changesNothing("14: 'COMPANY': nobody", AT_HOME, x -> x.about(0, 3), 0);
        changesNothing("14: 'PAIRS': nobody", AT_HOME, x -> x.about(0, 4), 0);
        changesNothing("14: 'LIKING': the most", ALL_FULL, x -> x.about(1, 2), 9999);
        changesNothing("14: 'COMPANY': the most", ALL_FULL, x -> x.about(1, 3), 30);
        changesNothing("14: 'PAIRS': the most", ALL_FULL, x -> x.about(1, 4), 15);
        refused("14: BAD: 5", SEATED, x -> x.about(0, 5), BAD, BAD);
    }

    // ---- what stays

    private static void then() {
        Supplier<SieveGuests> liked = PromiseEdgeTests::likedAlways;
        changesNothing("17: 'THEN' 0: as it is", liked, x -> x.then(0, 0), 4995);
        changesNothing("17: 'EVENINGS go beyond 999 in them': 60", liked, x -> x.then(0, 60), 5295);
        changesNothing("17: 'nobody going'", liked, x -> x.then(1, 60), 0);
        refused("17: BAD: 61", liked, x -> x.then(0, 61), BAD, BAD);
    }

    /** A plain guest at the first of two houses for all evenings. */
    private static SieveGuests likedAlways() {
        SieveGuests x = Scenes.one(PLAIN, 5, HORSEHAIR, 1);
        x.house(HORSEHAIR, 1);
        x.calls(0, 0);
        Scenes.pass(x, 999);
        return x;
    }

    private static void when() {
        Supplier<SieveGuests> liked = () -> Scenes.seated(3, 1, 0);
        // A bishop of 10, a child of 11, a tinker of 12, from 6 on: 10, 8, 6; all of 6; 12, 8: 10 parts, three pairs.
        changesNothing("18: 'WHEN' 1", liked, x -> x.when(0, 1), 1);
        changesNothing("18: 'x or more': 16", liked, x -> x.when(0, 16), 1);
        changesNothing("18: 'x or more': 17", liked, x -> x.when(0, 17), 2);
        changesNothing("18: '0 .. 60': 960", liked, x -> x.when(0, 960), 60);
        changesNothing("18: 'none': 961", liked, x -> x.when(0, 961), NONE);
        changesNothing("18: 'none': 999", liked, x -> x.when(0, 999), NONE);
        changesNothing("18: 'none': nobody there", AT_HOME, x -> x.when(0, 1), NONE);
        changesNothing("18: '0 .. 60': so already", ALL_FULL, x -> x.when(1, 999), 0);
        changesNothing("18: 'none': at 999, nobody there", ALL_FULL, x -> x.when(0, 1), NONE);
        refused("18: BAD: 0", liked, x -> x.when(0, 0), BAD, BAD);
        refused("18: BAD: 1000", liked, x -> x.when(0, 1000), BAD, BAD);
        SieveGuests x = Scenes.seated(3, 1, 0);
        x.evenings(1);
        due("18: 'first': 16 is there", x.when(0, 16), 0);
        due("18: 'first': 17 is not", x.when(0, 17), 1);
        due("18: '0 .. 60': 976", x.when(0, 976), 60);
        due("18: 'none': 977", x.when(0, 977), NONE);
        x = likedAlways();
        x.calls(0, 1);
        due("18: 'EVENINGS go beyond 999 in them': 60", x.when(1, 300), 60);
        due("18: 'EVENINGS go beyond 999 in them': none", x.when(1, 301), NONE);
    }

    private static void most() {
        changesNothing("19: 'NONE: there is no HOUSE'", GUESTS_ALONE, x -> x.most(0, 0), NONE);
        changesNothing("19: 'no HOUSE: 0'", GUESTS_ALONE, x -> x.most(0, 1), 0);
        changesNothing("19: 'of like ones the first'", ALL_FULL, x -> x.most(0, 0), 0);
        changesNothing("19: 'how many': all", ALL_FULL, x -> x.most(0, 1), 5);
        SieveGuests x = Scenes.one(PLAIN, 4, HORSEHAIR, 5);
        x.house(HORSEHAIR, 9);
        due("19: 'of like ones the first': nothing stays", x.most(0, 0), 0);
        due("19: 'how many': nothing", x.most(0, 1), 0);
        x.house(HORSEHAIR, 4);
        x.house(HORSEHAIR, 1);
        due("19: 'of like ones the first': the third and the fourth", x.most(0, 0), 2);
    }

    private static void round() {
        changesNothing("20: 'none': no HOUSE", GUESTS_ALONE, x -> x.round(0), NONE);
        changesNothing("20: 'none': a tinker", ALL_FULL, x -> x.round(0), 1);
        SieveGuests x = Scenes.one(BISHOP, 10, HORSEHAIR, 3);
        x.guest(TINKER, 30);
        due("20: 'none': the last part is 2", x.round(0), NONE);
        x.house(HORSEHAIR, 4);
        x.house(HORSEHAIR, 30);
        due("20: 'none': at all three together", x.round(0), NONE);
        x.house(HORSEHAIR, 2);
        due("20: 'as bits': the fourth alone", x.round(0), 8);
        due("20: 'none': parts of 0", x.round(1), NONE);
        SieveGuests y = Scenes.one(BISHOP, 10, HORSEHAIR, 3);
        y.house(HORSEHAIR, 2);
        y.house(HORSEHAIR, 2);
        due("20: 'of like ones the least': the second, not the third", y.round(0), 2);
        y.wets(4);
        y.house(WETTED, 9);
        due("20: 'of like ones the least': not the fourth", y.round(0), 2);
        SieveGuests z = Scenes.one(PARTY, 5, HORSEHAIR, 6);
        due("20: 'none': the first part is 5", z.round(0), NONE);
        z.house(HORSEHAIR, 5);
        due("20: 'all PARTS': 5 to 9", z.round(0), 2);
    }

    private static void mesh() {
        SieveGuests x = Scenes.one(TINKER, 30, COARSE, 1);
        x.guest(PLAIN, 4);
        x.house(HORSEHAIR, 1);
        x.house(SILK, 1);
        x.guest(PARTY, 30);
        due("21: 'k (0 .. 5)': none at least", x.mesh(0, 0, 0), 30);
        due("21: 'k PARTS, or more': three of a tinker: 22 by mesh 18", x.mesh(0, 0, 3), 18);
        due("21: 'none': four of a tinker", x.mesh(0, 0, 4), NONE);
        due("21: 'none': five of a tinker", x.mesh(0, 0, 5), NONE);
        due("21: 'none': mesh 0 would do", x.mesh(1, 0, 1), NONE);
        due("21: 'k (0 .. 5)': none at least, though none can stay", x.mesh(1, 0, 0), 30);
        due("21: '(1 .. 30)': 4", x.mesh(1, 1, 5), 4);
        due("21: 'k PARTS, or more': one of five alike", x.mesh(1, 1, 1), 4);
        due("21: '(1 .. 30)': 33 would do", x.mesh(2, 2, 5), 30);
        due("21: '(1 .. 30)': 30 of its own", x.mesh(2, 1, 5), 30);
        due("21: '(1 .. 30)': one part by 34 and 4", x.mesh(2, 0, 1), 30);
        due("21: '(1 .. 30)': two parts by 33 and 4", x.mesh(2, 0, 2), 29);
        x.guest(PLAIN, 5);
        due("21: '(1 .. 30)': the least", x.mesh(3, 0, 5), 1);
        changesNothing("21: 'none'", () -> Scenes.one(TINKER, 30, HORSEHAIR, 1), y -> y.mesh(0, 0, 4), NONE);
    }

    private static void place() {
        refused("22: 'BAD: -10': -2", SEATED, x -> x.place(-2), WRONG, BAD);
        refused("22: 'BAD: -10': one behind the last", SEATED, x -> x.place(3), WRONG, BAD);
        refused("22: 'BAD: -10': nobody", NOBODY, x -> x.place(0), WRONG, BAD);
        changesNothing("22: 'NONE: AT HOME': no HOUSE", GUESTS_ALONE, x -> x.place(0), NONE);
        changesNothing("22: 'how much': no HOUSE", GUESTS_ALONE, x -> x.place(NONE), 0);
        changesNothing("22: 'as if 9999 was no end'", ALL_FULL, x -> x.place(NONE), 60);
        changesNothing("22: 'HOUSES rising': of four the first", ALL_FULL, x -> x.place(5), 0);
        SieveGuests x = Scenes.one(PLAIN, 8, HORSEHAIR, 9);
        x.guest(PLAIN, 9);
        x.house(COARSE, 30);
        due("22: 'AT HOME (NONE) first': nothing of it would stay", x.place(0), NONE);
        due("22: 'HOUSES rising': the other one", x.place(1), 0);
        due("22: 'how much'", x.place(NONE), 5);
        x.house(HORSEHAIR, 8);
        x.house(HORSEHAIR, 8);
        due("22: 'how much': together", x.place(NONE), 12);
        due("22: 'the first such way': the third house", x.place(0) * 10 + x.place(1), 22);
    }

    // ---- how great it was

    private static void seen() {
        refused("23: 'FULL: 5': a sixth", ALL_FULL, x -> x.seen(5, 3, 4, 5), FULL, FULL);
        refused("23: BAD, then FULL: the GUEST", ALL_FULL, x -> x.seen(6, 3, 4, 5), BAD, BAD);
        refused("23: BAD, then FULL: the HOUSE", ALL_FULL, x -> x.seen(5, 4, 4, 5), BAD, BAD);
        refused("23: BAD, then FULL: WET", ALL_FULL, x -> x.seen(5, 3, 5, 5), BAD, BAD);
        refused("23: BAD, then FULL: k", ALL_FULL, x -> x.seen(5, 3, 4, 6), BAD, BAD);
        SieveGuests x = Scenes.full();
        due("23: 'FULL': how many there were", x.forget(0), 5);
        for (int k = 1; k <= 5; k++) {
            due("23: 'how many there are'", x.seen(0, 0, 0, 0), k);
        }
        due("23: 'FULL: 5': again", x.seen(0, 0, 0, 0), FULL);
        due("23: 'FULL: 5': NOTES and MARKS are others", x.count(SEEN) * 100 + x.count(NOTES) * 10 + x.count(MARKS), 566);
    }

    private static void seenOfOne() {
        SieveGuests x = Scenes.one(PLAIN, 1, HORSEHAIR, 30);
        x.guest(PLAIN, 1);
        x.house(HORSEHAIR, 1);
        x.seen(0, 0, 0, 5);
        due("23: 'k (0 .. 5)': all at mesh 30: how many", x.sizes(0, 0), 1);
        due("23: 'k (0 .. 5)': all at mesh 30: the least", x.sizes(0, 1), 30);
        due("23: 'k (0 .. 5)': all at mesh 30: the greatest", x.sizes(0, 2), 30);
        x.seen(1, 0, 0, 0);
        due("23: 'k (0 .. 5)': none at mesh 30: how many", x.sizes(1, 0), 29);
        due("23: 'k (0 .. 5)': none at mesh 30: the greatest", x.sizes(1, 2), 29);
        x.forget(0);
        x.seen(1, 1, 0, 0);
        due("23: 'k (0 .. 5)': none at mesh 1", x.sizes(1, 0), 0);
        x.house(HORSEHAIR, 2);
        x.forget(0);
        x.seen(1, 2, 0, 0);
        due("23: 'k (0 .. 5)': none at mesh 2: the least", x.sizes(1, 1), 1);
        due("23: 'k (0 .. 5)': none at mesh 2: the greatest", x.sizes(1, 2), 1);
        SieveGuests y = Scenes.one(PLAIN, 1, WETTED, 30);
        y.seen(0, 0, 0, 5);
        due("23: 'by WET w (0 .. 4)': from 27 on", y.sizes(0, 1), 27);
        y.forget(0);
        y.seen(0, 0, 4, 5);
        due("23: 'by WET w (0 .. 4)': from 23 on", y.sizes(0, 1), 23);
        y.forget(0);
        y.seen(0, 0, 4, 0);
        due("23: 'by WET w (0 .. 4)': up to 22", y.sizes(0, 2), 22);
    }

    private static void sizes() {
        Supplier<SieveGuests> none = () -> {
            SieveGuests x = Scenes.one(TINKER, 5, HORSEHAIR, 1);
            x.seen(0, 0, 0, 4);
            return x;
        };
        changesNothing("24: 'how many': none", none, x -> x.sizes(0, 0), 0);
        changesNothing("24: 'the least (NONE: none)'", none, x -> x.sizes(0, 1), NONE);
        changesNothing("24: 'the greatest (NONE: none)'", none, x -> x.sizes(0, 2), NONE);
        changesNothing("24: 'SIZES (1 .. 30)': nothing seen: how many", AT_HOME, x -> x.sizes(1, 0), 30);
        changesNothing("24: 'SIZES (1 .. 30)': nothing seen: the least", AT_HOME, x -> x.sizes(1, 1), 1);
        changesNothing("24: 'SIZES (1 .. 30)': nothing seen: the greatest", AT_HOME, x -> x.sizes(1, 2), 30);
        changesNothing("24: 'so that all SEEN of it are so': no HOUSE", GUESTS_ALONE, x -> x.sizes(2, 0), 30);
        refused("24: BAD: 3", AT_HOME, x -> x.sizes(0, 3), BAD, BAD);
    }

    private static void tell() {
        changesNothing("25: 'none: no HOUSE'", GUESTS_ALONE, x -> x.tell(0), NONE);
        changesNothing("25: 'none: no SIZE'", PromiseEdgeTests::noSize, x -> x.tell(0), NONE);
        changesNothing("25: 'no SIZE': the other has all", PromiseEdgeTests::noSize, x -> x.tell(1), 0);
        SieveGuests x = Scenes.one(PLAIN, 1, HORSEHAIR, 1);
        due("25: 'parts these SIZES best': one house, that parts none", x.tell(0), 0);
        x.house(HORSEHAIR, 16);
        x.house(HORSEHAIR, 16);
        due("25: 'of like ones the first'", x.tell(0), 1);
        x.seen(0, 1, 0, 0);
        due("25: 'of like ones the first': none parts 1 .. 15", x.tell(0), 0);
        SieveGuests y = Scenes.one(PLAIN, 1, HORSEHAIR, 15);
        y.house(HORSEHAIR, 16);
        due("25: 'SIZES (1 .. 30)': with 30: 14 and 16, 15 and 15", y.tell(0), 1);
        SieveGuests z = Scenes.one(PLAIN, 1, HORSEHAIR, 17);
        z.house(HORSEHAIR, 16);
        due("25: 'SIZES (1 .. 30)': with 1: 16 and 14, 15 and 15", z.tell(0), 1);
    }

    private static SieveGuests noSize() {
        SieveGuests x = Scenes.one(PLAIN, 5, HORSEHAIR, 1);
        x.guest(PLAIN, 5);
        x.seen(0, 0, 0, 0);
        return x;
    }

    private static void note() {
        refused("26: 'FULL: 6': a seventh", ALL_FULL, x -> x.note(5, 30, 4, 60), FULL, FULL);
        refused("26: BAD, then FULL: the GUEST", ALL_FULL, x -> x.note(6, 30, 4, 60), BAD, BAD);
        refused("26: BAD, then FULL: the SIZE", ALL_FULL, x -> x.note(5, 31, 4, 60), BAD, BAD);
        refused("26: BAD, then FULL: the PART", ALL_FULL, x -> x.note(5, 30, 5, 60), BAD, BAD);
        refused("26: BAD, then FULL: x", ALL_FULL, x -> x.note(5, 30, 4, 61), BAD, BAD);
        SieveGuests x = Scenes.full();
        due("26: 'FULL': how many there were", x.forget(1), 6);
        for (int k = 1; k <= 6; k++) {
            due("26: 'how many there are'", x.note(0, 1, 0, 1), k);
        }
        due("26: 'FULL: 6': again", x.note(0, 1, 0, 1), FULL);
        due("26: 'FULL: 6': SEEN ones and MARKS are others", x.count(SEEN) * 10 + x.count(MARKS), 56);
    }

    private static void mark() {
        refused("27: 'FULL: 6': a seventh", ALL_FULL, x -> x.mark(3, 30, 4, 60, 1), FULL, FULL);
        refused("27: BAD, then FULL: the HOUSE", ALL_FULL, x -> x.mark(4, 30, 4, 60, 1), BAD, BAD);
        refused("27: BAD, then FULL: the MESH", ALL_FULL, x -> x.mark(3, 31, 4, 60, 1), BAD, BAD);
        refused("27: BAD, then FULL: WET", ALL_FULL, x -> x.mark(3, 30, 5, 60, 1), BAD, BAD);
        refused("27: BAD, then FULL: x", ALL_FULL, x -> x.mark(3, 30, 4, 61, 1), BAD, BAD);
        refused("27: BAD, then FULL: stayed", ALL_FULL, x -> x.mark(3, 30, 4, 60, 2), BAD, BAD);
        SieveGuests x = Scenes.full();
        due("27: 'FULL': how many there were", x.forget(2), 6);
        for (int k = 1; k <= 6; k++) {
            due("27: 'how many there are'", x.mark(0, 1, 0, 0, 0), k);
        }
        due("27: 'FULL: 6': again", x.mark(0, 1, 0, 0, 0), FULL);
        due("27: 'FULL: 6': SEEN ones and NOTES are others", x.count(SEEN) * 10 + x.count(NOTES), 56);
    }

    private static void forget() {
        refused("28: BAD: 3", ALL_FULL, x -> x.forget(3), BAD, BAD);
        SieveGuests x = Scenes.full();
        int undone = x.count(UNDONE);
        due("28: 'how many there were': SEEN ones", x.forget(0), 5);
        due("28: 'how many there were': no more", x.forget(0), 0);
        due("28: 'how many there were': NOTES", x.forget(1), 6);
        due("28: 'how many there were': no more", x.forget(1), 0);
        due("28: 'how many there were': MARKS", x.forget(2), 6);
        due("28: 'how many there were': no more", x.forget(2), 0);
        due("28: is none that may be undone", x.count(UNDONE), undone);
        x.undo();
        due("28: is not undone", x.count(SEEN) + x.count(NOTES) + x.count(MARKS), 0);
        due("28: none is a refusal", x.status(0) + x.status(1) + x.status(2), 0);
    }

    private static void is() {
        changesNothing("29: 'as bits': no NOTE of it", AT_HOME, x -> x.is(2), 63);
        SieveGuests x = Scenes.one(PLAIN, 5, HORSEHAIR, 1);
        x.note(0, 30, 4, 60);
        due("29: 'as bits': 60 great is none", x.is(0), 0);
        x.forget(1);
        x.note(0, 30, 4, 34);
        due("29: 'as bits': 34 great is a party", x.is(0), 1 << PARTY);
        x.forget(1);
        x.note(0, 1, 1, 0);
        due("29: 'as bits': 0 great is a tinker", x.is(0), 1 << TINKER);
        x.forget(1);
        x.note(0, 1, 0, 1);
        due("29: 'as bits': all are 1 great", x.is(0), 63);
        x.note(0, 30, 4, 1);
        due("29: 'as bits': the last", x.is(0), 1 << COUGH);
    }

    private static void look() {
        Supplier<SieveGuests> none = () -> {
            SieveGuests x = Scenes.one(PLAIN, 5, HORSEHAIR, 1);
            x.note(0, 30, 4, 60);
            return x;
        };
        changesNothing("30: 'none: no KIND'", none, x -> x.look(0), NONE);
        SieveGuests x = Scenes.one(PLAIN, 30, HORSEHAIR, 1);
        x.note(0, 3, 2, 1);
        x.note(0, 1, 1, 1);
        due("30: 'of like ones the least': bishop, cough", x.is(0), 1 << BISHOP | 1 << COUGH);
        due("30: 'of like ones the least': the first part does", x.look(0), 0);
        x.note(0, 30, 2, 26);
        due("30: one KIND: the first part", x.look(0), 0);
        SieveGuests y = Scenes.one(PLAIN, 30, HORSEHAIR, 1);
        y.note(0, 3, 0, 2);
        due("30: child, cough", y.is(0), 1 << CHILD | 1 << COUGH);
        due("30: 'of like ones the least': at parts 0, 1 they are alike", y.look(0), 2);
        SieveGuests z = Scenes.one(PLAIN, 1, HORSEHAIR, 1);
        z.note(0, 3, 0, 2);
        due("30: 'its SIZE as it is': all parts are 1, the first", z.look(0), 0);
        // Of size 12 there is: 12, 12, 6, 12, 12, 6; 12, 10, 6, 0, 13, 6; a sixth part would tell all of them apart.
        SieveGuests five = Scenes.one(PLAIN, 12, HORSEHAIR, 1);
        due("30: 'PARTS 0 .. 4': no sixth one", five.look(0), 1);
        five.note(0, 2, 2, 1);
        due("30: bishop, child, tinker, cough", five.is(0), 1 << BISHOP | 1 << CHILD | 1 << TINKER | 1 << COUGH);
        due("30: 'PARTS 0 .. 4': no sixth one of four kinds", five.look(0), 0);
        SieveGuests first = Scenes.one(PLAIN, 10, HORSEHAIR, 1);
        first.note(0, 3, 0, 3);
        first.note(0, 1, 1, 1);
        due("30: plain, bishop", first.is(0), 1 << PLAIN | 1 << BISHOP);
        due("30: alike at part 0, not at part 1", first.look(0), 1);
        SieveGuests last = Scenes.one(PLAIN, 2, HORSEHAIR, 1);
        last.note(0, 3, 0, 3);
        last.note(0, 2, 4, 1);
        due("30: bishop, tinker", last.is(0), 1 << BISHOP | 1 << TINKER);
        due("30: 'of like ones the least': holes at 1 and at 3", last.look(0), 1);
    }

    private static void kinds() {
        changesNothing("31: 'as bits': no MARK of it", AT_HOME, x -> x.kinds(1), 63);
        SieveGuests x = Scenes.one(PLAIN, 5, HORSEHAIR, 1);
        x.mark(0, 1, 4, 0, 1);
        due("31: 'as bits': 0 great never stays", x.kinds(0), 0);
        x.forget(2);
        x.mark(0, 1, 4, 0, 0);
        due("31: 'as bits': 0 great never stays, of all kinds", x.kinds(0), 63);
        x.forget(2);
        x.mark(0, 30, 0, 60, 0);
        due("31: 'as bits': 60 great does not stay on an old one", x.kinds(0), 1 << OLD);
        x.forget(2);
        x.mark(0, 30, 0, 60, 1);
        due("31: 'as bits': 60 great stays on all others", x.kinds(0), 63 - (1 << OLD));
    }

    private static void ask() {
        Supplier<SieveGuests> none = () -> {
            SieveGuests x = Scenes.one(PLAIN, 5, HORSEHAIR, 1);
            x.mark(0, 1, 0, 0, 1);
            return x;
        };
        changesNothing("32: 'none: no KIND'", none, x -> x.ask(0), NONE);
        SieveGuests x = Scenes.one(PLAIN, 5, HORSEHAIR, 30);
        x.mark(0, 30, 0, 60, 0);
        due("32: one KIND: the least question", x.ask(0), 0);
        SieveGuests y = Scenes.one(PLAIN, 5, HORSEHAIR, 8);
        y.mark(0, 10, 0, 7, 1);
        y.mark(0, 10, 0, 6, 0);
        due("32: silk, wetted", y.kinds(0), 1 << SILK | 1 << WETTED);
        due("32: 'of like ones the least': by wet 1, from 4, not from 5 on", y.ask(0), 104);
        SieveGuests z = Scenes.one(PLAIN, 5, HORSEHAIR, 4);
        z.mark(0, 10, 0, 7, 1);
        z.mark(0, 10, 0, 6, 0);
        due("32: 'its MESH as it is': nothing tells them apart", z.ask(0), 0);
        SieveGuests first = Scenes.one(PLAIN, 5, HORSEHAIR, 30);
        first.mark(0, 10, 0, 14, 1);
        first.mark(0, 10, 0, 9, 0);
        due("32: horsehair, coarse", first.kinds(0), 1 << HORSEHAIR | 1 << COARSE);
        due("32: 'of like ones the least': from 30, not from 34 on", first.ask(0), 30);
    }

    private static void rivals() {
        refused("33: 'BAD: -10: alike a, b'", AT_HOME, x -> x.rivals(1, 1, 0, NONE), WRONG, BAD);
        refused("33: 'alike a, b': the first", AT_HOME, x -> x.rivals(0, 0, 0, 0), WRONG, BAD);
        refused("33: 'k below -1, too'", AT_HOME, x -> x.rivals(0, 1, 0, -2), WRONG, BAD);
        refused("33: one HOUSE alone", () -> Scenes.gathering(1, 1), x -> x.rivals(0, 1, 0, NONE), WRONG, BAD);
        refused("33: 'BAD', not '-5'", AT_HOME, x -> x.rivals(0, 0, 0, 81), WRONG, BAD);
        // Plain of 9: by a mesh from 1 to 9 all stay, whatever the other does.
        Supplier<SieveGuests> all = () -> {
            SieveGuests x = Scenes.one(PLAIN, 9, HORSEHAIR, 30);
            x.house(SILK, 30);
            return x;
        };
        changesNothing("33: 'how many': all", all, x -> x.rivals(0, 1, 0, NONE), 81);
        changesNothing("33: 'the k-th': the first", all, x -> x.rivals(0, 1, 0, 0), 11);
        changesNothing("33: 'rising': the ninth", all, x -> x.rivals(0, 1, 0, 8), 19);
        changesNothing("33: 'rising': the tenth", all, x -> x.rivals(0, 1, 0, 9), 21);
        changesNothing("33: 'the k-th': the last", all, x -> x.rivals(1, 0, 0, 80), 99);
        changesNothing("33: '-5: not so many': 81", all, x -> x.rivals(0, 1, 0, 81), TOO_FEW);
        changesNothing("33: '-5: not so many': the most", all, x -> x.rivals(0, 1, 0, Integer.MAX_VALUE), TOO_FEW);
        SieveGuests x = Scenes.one(PLAIN, 8, HORSEHAIR, 30);
        x.house(SILK, 30);
        due("33: 'a MESH (1 .. 9)': but for 9", x.rivals(0, 1, 0, NONE), 72);
        due("33: 'a MESH (1 .. 9)': the last", x.rivals(0, 1, 0, 71), 89);
        due("33: 'a MESH (1 .. 9)': the last, the other way round", x.rivals(1, 0, 0, 71), 98);
        SieveGuests y = Scenes.one(PLAIN, 5, HORSEHAIR, 30);
        y.house(COARSE, 30);
        due("33: 'a MESH (1 .. 9)': the other by 1 alone", y.rivals(0, 1, 0, NONE), 5);
        due("33: 'a MESH (1 .. 9)': the last of these", y.rivals(0, 1, 0, 4), 51);
        due("33: '-5: not so many': 5", y.rivals(0, 1, 0, 5), TOO_FEW);
        SieveGuests z = Scenes.one(BISHOP, 9, HORSEHAIR, 30);
        z.house(HORSEHAIR, 30);
        due("33: 'neither would get more': by 1 each", z.rivals(0, 1, 0, NONE), 1);
        due("33: 'neither would get more': the one", z.rivals(0, 1, 0, 0), 11);
        SieveGuests none = Scenes.one(PLAIN, 4, COARSE, 30);
        none.house(OLD, 30);
        due("33: nothing stays by any, all rest", none.rivals(0, 1, 0, NONE), 81);
    }

    private static void rain() {
        refused("34: BAD: 11", ALL_FULL, x -> x.rain(0, 11), BAD, BAD);
        refused("34: BAD: -1", ALL_FULL, x -> x.rain(0, -1), BAD, BAD);
        SieveGuests x = Scenes.full();
        due("34: 'THE FRACTION: 1'", x.rain(5, 10), 1);
        due("34: 'at all of them together': the most", x.part(0), 20);
        due("34: 'lowest terms': by 1", x.part(1), 1);
        due("34: is none that may be undone", x.count(UNDONE), 8);
        x.undo();
        due("34: is not undone", x.part(0), 20);
        SieveGuests y = Scenes.one(PLAIN, 9, OLD, 30);
        y.rain(0, 10);
        due("34: nothing stays: 0", y.part(0), 0);
        due("34: nothing stays: by 1", y.part(1), 1);
        rainOf("'else 0': from 7 on, not 6", 10, 0, 0);
        rainOf("'else 0': from 6 on", 9, 0, 5);
        rainOf("'WET is 4': from 6 on", 13, 10, 5);
        rainOf("'WET is 4': from 7 on, not 6", 14, 10, 0);
    }

    /** How many parts of a plain guest of 6 stay in the mean on a wetted sieve. */
    private static void rainOf(String what, int mesh, int c, int parts) {
        SieveGuests x = Scenes.one(PLAIN, 6, WETTED, mesh);
        x.wets(2);
        x.rain(0, c);
        due("34: " + what, x.part(0), parts);
    }

    private static void years() {
        Supplier<SieveGuests> liked = PromiseEdgeTests::likedAlways;
        changesNothing("35: 'n (0 .. 60)': no EVENING", liked, x -> x.years(999999, 0), 4995);
        // Seed 0: 12345 (guest 0, house 0).
        changesNothing("35: 'EVENINGS go beyond 999 in them'", liked, x -> x.years(0, 1), 5000);
        refused("35: BAD: 1000000", liked, x -> x.years(1000000, 0), BAD, BAD);
        refused("35: BAD: 61", liked, x -> x.years(0, 61), BAD, BAD);
        due("35: 'not there: none'", Scenes.gathering(0, 4).years(0, 60), 0);
        due("35: 'not there: goes HOME'", Scenes.gathering(6, 0).years(0, 60), 0);
        SieveGuests x = Scenes.one(PLAIN, 5, HORSEHAIR, 1);
        // Seed 0: 12345 (guest 0, house 0), 1406932606 (guest 0, house 1, not there).
        x.calls(0, 0);
        due("35: 'CALLS at HOUSE': where it is already", x.years(0, 1), 5);
        due("35: 'not there: goes HOME': from there", x.years(0, 2), 5);
        due("35: is still there", x.of(0, 2), 0);
    }

    /** X is cut to 31 bits ahead of each evening, from the least and from the greatest seed. */
    private static void yearsWrapAround() {
        for (int seed : new int[] {0, 1, 999998, 999999}) {
            for (int n : new int[] {0, 1, 59, 60}) {
                SieveGuests x = new SieveGuests();
                for (int i = 0; i < 6; i++) {
                    x.guest(PLAIN, 5);
                }
                for (int h = 0; h < 3; h++) {
                    x.house(HORSEHAIR, 1);
                }
                due("35: 'what is left over': SEED " + seed + ", " + n + " EVENINGS", x.years(seed, n), likingBehind(seed, n));
            }
        }
    }

    /** The first X of these seeds is where the GUEST or the HOUSE becomes the next one, or one short of it. */
    private static void yearsAreCut() {
        SieveGuests x = new SieveGuests();
        for (int i = 0; i < 6; i++) {
            x.guest(i % 2 == 0 ? BISHOP : TINKER, 9);
        }
        for (int h = 0; h < 4; h++) {
            x.house(HORSEHAIR, 1 + 2 * h);
        }
        due("35: 'X by 65536 (cut)': 1062535168 is 16213 times 65536: guest 1, house 1", x.years(42627, 1), 2);
        due("35: 'X by 65536 (cut)': 277282815 is one short of 4231 times: guest 0, house 0", x.years(47902, 1), 5);
        due("35: 'X by 1048576 (cut)': 1682964480 is 1605 times 1048576: guest 0, house 1", x.years(501379, 1), 4);
        due("35: 'X by 1048576 (cut)': 202375167 is one short of 193 times: guest 3, house 0", x.years(899870, 1), 3);
    }

    /** Six guests of five parts each, three houses. */
    private static int likingBehind(int seed, int evenings) {
        java.math.BigInteger x = java.math.BigInteger.valueOf(seed);
        int[] at = {9, 9, 9, 9, 9, 9};
        int liking = 0;
        for (int k = 0; k < evenings; k++) {
            x = x.multiply(java.math.BigInteger.valueOf(1103515245)).add(java.math.BigInteger.valueOf(12345));
            x = x.mod(java.math.BigInteger.valueOf(2147483648L));
            at[x.intValue() / 65536 % 6] = x.intValue() / 1048576 % 4;
            for (int h = 0; h < 3; h++) {
                int house = h;
                int there = (int) java.util.Arrays.stream(at).filter(g -> g == house).count();
                liking += 5 * there + there * (there - 1);
            }
        }
        return liking;
    }

    // ---- what there is

    private static void part() {
        refused("36: BAD: 2", ALL_FULL, x -> x.part(2), BAD, BAD);
        refused("36: BAD: -1", NOBODY, x -> x.part(-1), BAD, BAD);
        changesNothing("36: 'above (0)': at first", NOBODY, x -> x.part(0), 0);
        changesNothing("36: 'below (1)': at first", NOBODY, x -> x.part(1), 1);
    }

    private static void image() {
        refused("37: BAD: 2", ALL_FULL, x -> x.image(2), BAD, BAD);
        refused("37: BAD: -1", NOBODY, x -> x.image(-1), BAD, BAD);
        SieveGuests x = new SieveGuests();
        due("37: 'kept': of nobody", x.image(0), 1);
        x.guest(PLAIN, 5);
        due("37: 'goes on': with nobody", x.from(0), 1);
        due("37: 'kept': nobody", x.count(0), 0);
        x.guest(PLAIN, 5);
        due("37: 'kept': in place of the other", x.image(0), 1);
        x.uplands(0);
        x.from(0);
        due("37: 'kept': one", x.count(0), 1);
    }

    private static void from() {
        refused("38: 'NO: none was kept': 0", NOBODY, x -> x.from(0), NO, NO);
        refused("38: 'NO: none was kept': 1", NOBODY, x -> x.from(1), NO, NO);
        Supplier<SieveGuests> first = () -> {
            SieveGuests x = new SieveGuests();
            x.image(0);
            return x;
        };
        refused("38: 'NO: none was kept': the other", first, x -> x.from(1), NO, NO);
        refused("38: BAD: 2", first, x -> x.from(2), BAD, BAD);
        changesNothing("38: 'goes on': from what is", first, x -> x.from(0), 1);
    }

    private static void statusOfEachReason() {
        SieveGuests x = Scenes.full();
        int[] due = new int[3];
        for (int k = 1; k <= 20; k++) {
            x.guest(9, 9);
            x.place(-2);
            x.status(7);
            x.rivals(0, 0, 0, 0);
            x.calls(0, 1);
            x.wets(2);
            x.type(65);
            due[0] += 4;
            due[1] += 2;
            due[2] += 1;
        }
        for (int reason = 0; reason < 3; reason++) {
            due("39: 'how many calls were refused' as " + (-2 - reason), x.status(reason), due[reason]);
        }
    }

    private static void statusOfMany() {
        SieveGuests x = new SieveGuests();
        for (int k = 1; k <= 509; k++) {
            x.undo();
        }
        due("39: NO: 509 of 512 calls", x.status(1), 509);
        due("39: BAD: none", x.status(0), 0);
        due("39: FULL: none, by the 512th call", x.status(2), 0);
    }

    private static void status() {
        refused("39: '-1: another what (counts as BAD)': 3", SEATED, x -> x.status(3), -1, BAD);
        refused("39: '-1: another what (counts as BAD)': -1", SEATED, x -> x.status(-1), -1, BAD);
        SieveGuests x = Scenes.gathering(3, 2);
        x.clear();
        due("39: a FAULT", x.read(), -10);
        due("39: '-5'", x.rivals(0, 1, 0, 81), TOO_FEW);
        due("39: NONE", x.when(0, 999), NONE);
        due("39: none of them counts", x.status(0) + x.status(1) + x.status(2), 0);
        x.uplands(9);
        x.uplands(0);
        due("39: stays behind uplands", x.status(0), 1);
    }

    private static void count() {
        int[] none = new int[11];
        int[] all = {6, 4, 999, 2, 6, 9999, 5, 6, 6, 8, 150};
        for (int k = 0; k < 11; k++) {
            int what = k;
            changesNothing("40: count(" + what + ") of nobody", NOBODY, x -> x.count(what), none[what]);
            changesNothing("40: count(" + what + "), full", ALL_FULL, x -> x.count(what), all[what]);
        }
        refused("40: BAD: 11", ALL_FULL, x -> x.count(11), BAD, BAD);
        refused("40: BAD: -1", ALL_FULL, x -> x.count(-1), BAD, BAD);
    }

    /** Some hundred numbers: what is told wraps around 64 bits. */
    private static void digest() {
        long h = 1627;
        int[] counts = {6, 4, 999, 2, 6, 9999, 5, 6, 6, 8, 150};
        for (int v : counts) {
            h = 31 * h + v;
        }
        for (int i = 0; i < 6; i++) {
            h = 31 * (31 * (31 * h + PARTY) + 25 + i) + 1;
        }
        for (int k = 0; k < 4; k++) {
            h = 31 * (31 * (31 * h + HORSEHAIR) + 1 + k) + (k == 1 ? 9999 : 0);
        }
        for (int k = 0; k < 5; k++) {
            h = 31 * (31 * (31 * (31 * h + k) + 0) + k) + 5;
        }
        for (int k = 0; k < 6; k++) {
            h = 31 * (31 * (31 * (31 * h + k) + 30) + 4) + 34;
        }
        for (int k = 0; k < 6; k++) {
            h = 31 * (31 * (31 * (31 * (31 * h + k % 4) + 10) + 0) + 10) + 1;
        }
        long due = 31 * (31 * h + 0) + 1;
        changesNothing("41: 'h = 31 h + v', full", ALL_FULL, SieveGuests::digest, due);
        h = 1627;
        int[] some = {2, 2, 0, 2, 0, 0, 1, 1, 1, 1, 20, 1, 10, -1, 2, 11, -1, 0, 6, 0, 1, 7, 0, 0, 0, 1, 3, 0, 9, 1, 7,
            0, 8, 1, 8, 1, 7, 1};
        for (int v : some) {
            h = 31 * h + v;
        }
        changesNothing("41: 'h = 31 h + v', some", () -> Scenes.gathering(2, 2), SieveGuests::digest, h);
    }

    private static void questions() {
        changesNothing("15: a question", ALL_FULL, x -> x.great(5, 4), 34);
        changesNothing("16: a question", ALL_FULL, x -> x.stays(5, 3), 31);
        changesNothing("21: a question", ALL_FULL, x -> x.mesh(5, 3, 5), 30);
        changesNothing("25: a question", ALL_FULL, x -> x.tell(5), 3);
        changesNothing("29: a question", ALL_FULL, x -> x.is(5), 1 << PARTY);
        changesNothing("30: a question", ALL_FULL, x -> x.look(5), 0);
        changesNothing("31: a question", ALL_FULL, x -> x.kinds(3), 43);
        changesNothing("32: a question", ALL_FULL, x -> x.ask(3), 1);
        changesNothing("35: a question", ALL_FULL, x -> x.years(5, 0), 9999);
        changesNothing("36: a question", ALL_FULL, x -> x.part(1), 1);
        changesNothing("39: a question", ALL_FULL, x -> x.status(2), 0);
    }
}
