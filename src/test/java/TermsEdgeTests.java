/** For each sentence of 'Terms' that names an edge, but for those of the text: both sides of it, worked out by hand. */
public final class TermsEdgeTests {
    private static final int NONE = -1, BAD = -2, NO = -3, FULL = -4;
    private static final int PLAIN = 0, BISHOP = 1, CHILD = 2, TINKER = 3, PARTY = 4, COUGH = 5;
    private static final int HORSEHAIR = 0, SILK = 1, COARSE = 2, WETTED = 3, OLD = 4, FINE = 5;
    private static final int KIND = 0, SIZE = 1, PLACE = 2, STAYING = 3, MESH = 1, LIKING = 2, COMPANY = 3, PAIRS = 4;
    private static final int COUNT_GUESTS = 0, COUNT_HOUSES = 1, EVENING = 2, WET = 3, ALL_LIKING = 5, UNDONE = 9;
    private static final Due DUE = new Due("TermsEdgeTests");

    public static void main(String[] args) {
        guestsAreZeroToFive();
        sizesAreOneToThirty();
        partsAreZeroToFour();
        guestsAreAtHomeAtFirst();
        housesAreZeroToThree();
        meshesAreOneToThirty();
        likingIsZeroAtFirst();
        likingEndsAt9999();
        likingStopsShortOf9999();
        likingOfEachHouseEndsApart();
        eveningsAreZeroAtFirst();
        eveningsEndAt999();
        wetIsZeroToFour();
        bishopsAreOneAtLeast();
        childrenAreHalfCutUp();
        tinkersAreHoles();
        partiesAndCoughs();
        silkIsOneAtLeast();
        wettedIsOneAtLeast();
        coarseOldAndFine();
        partsStayFromTheLeastOn();
        staysByWetAsItIs();
        pairsNeedSomethingOfBoth();
        eveningsAddCompanyAndPairs();
        eightMayBeUndone();
        eachKindIsUndone();
        allAreUndone();
        noneMayBeUndone();
        imagesAreTwo();
        imagesKeepAllButSome();
        fractionIsZeroByOneAtFirst();
        DUE.end();
    }

    private static void due(String what, long got, long want) {
        DUE.is(what, got, want);
    }

    // ---- guests and houses

    private static void guestsAreZeroToFive() {
        SieveGuests x = new SieveGuests();
        for (int round = 0; round < 2; round++) {
            for (int i = 0; i < 6; i++) {
                due("'GUESTS 0 .. 5': not there yet, " + i, x.of(i, SIZE), BAD);
                due("'GUESTS 0 .. 5, as they come': " + i, x.guest(i, 5 + i), i);
                due("'GUESTS 0 .. 5': there, " + i, x.of(i, SIZE), 5 + i);
            }
            due("'GUESTS 0 .. 5': a seventh", x.guest(0, 1), FULL);
            due("'GUESTS 0 .. 5': it is not there", x.of(6, SIZE), BAD);
            due("'GUESTS 0 .. 5': six", x.count(COUNT_GUESTS), 6);
            due("'GUESTS 0 .. 5': and anew", x.uplands(0), 6);
        }
    }

    private static void sizesAreOneToThirty() {
        SieveGuests x = new SieveGuests();
        due("'a SIZE (1 .. 30)': 0", x.guest(PLAIN, 0), BAD);
        due("'a SIZE (1 .. 30)': 31", x.guest(PLAIN, 31), BAD);
        due("'a SIZE (1 .. 30)': none came", x.count(COUNT_GUESTS), 0);
        due("'a SIZE (1 .. 30)': 1", x.guest(PLAIN, 1), 0);
        due("'a SIZE (1 .. 30)': 30", x.guest(PLAIN, 30), 1);
        due("'a SIZE (1 .. 30)': it is 1", x.of(0, SIZE), 1);
        due("'a SIZE (1 .. 30)': it is 30", x.of(1, SIZE), 30);
    }

    private static void partsAreZeroToFour() {
        SieveGuests x = Scenes.one(PARTY, 20, HORSEHAIR, 1);
        due("'PARTS 0 .. 4': the first", x.great(0, 0), 20);
        due("'PARTS 0 .. 4': the last", x.great(0, 4), 24);
        due("'PARTS 0 .. 4': -1", x.great(0, -1), BAD);
        due("'PARTS 0 .. 4': 5", x.great(0, 5), BAD);
        due("'PARTS 0 .. 4': five bits", x.stays(0, 0), 31);
        due("'PARTS 0 .. 4': five of them", x.most(0, 1), 5);
    }

    private static void guestsAreAtHomeAtFirst() {
        SieveGuests x = Scenes.one(PLAIN, 5, HORSEHAIR, 1);
        due("'AT HOME at first'", x.of(0, PLACE), NONE);
        x.calls(0, 0);
        x.guest(PLAIN, 6);
        due("'AT HOME at first': the next one", x.of(1, PLACE), NONE);
        due("'AT HOME at first': not the other", x.of(0, PLACE), 0);
        x.uplands(0);
        x.guest(PLAIN, 5);
        x.house(HORSEHAIR, 1);
        due("'AT HOME at first': anew", x.of(0, PLACE), NONE);
        due("'AT HOME at first': nobody is away", x.count(4), 0);
        due("'AT HOME at first': nobody's company", x.about(0, COMPANY), 0);
    }

    private static void housesAreZeroToThree() {
        SieveGuests x = new SieveGuests();
        for (int round = 0; round < 2; round++) {
            for (int h = 0; h < 4; h++) {
                due("'HOUSES 0 .. 3': not there yet, " + h, x.about(h, MESH), BAD);
                due("'HOUSES 0 .. 3, as they come': " + h, x.house(5 - h, 9 + h), h);
                due("'HOUSES 0 .. 3': its KIND, " + h, x.about(h, KIND), 5 - h);
                due("'HOUSES 0 .. 3': its MESH, " + h, x.about(h, MESH), 9 + h);
            }
            due("'HOUSES 0 .. 3': a fifth", x.house(0, 1), FULL);
            due("'HOUSES 0 .. 3': it is not there", x.about(4, MESH), BAD);
            due("'HOUSES 0 .. 3': four", x.count(COUNT_HOUSES), 4);
            x.uplands(0);
        }
    }

    private static void meshesAreOneToThirty() {
        SieveGuests x = new SieveGuests();
        due("'a MESH (1 .. 30)': 0", x.house(HORSEHAIR, 0), BAD);
        due("'a MESH (1 .. 30)': 31", x.house(HORSEHAIR, 31), BAD);
        due("'a MESH (1 .. 30)': none came", x.count(COUNT_HOUSES), 0);
        due("'a MESH (1 .. 30)': 1", x.house(HORSEHAIR, 1), 0);
        due("'a MESH (1 .. 30)': 30", x.house(HORSEHAIR, 30), 1);
        due("'a MESH (1 .. 30)': it is 1", x.about(0, MESH), 1);
        due("'a MESH (1 .. 30)': it is 30", x.about(1, MESH), 30);
    }

    // ---- liking, evenings, wet

    private static void likingIsZeroAtFirst() {
        SieveGuests x = Scenes.one(PLAIN, 5, HORSEHAIR, 1);
        due("'LIKING (0 at first)'", x.about(0, LIKING), 0);
        x.calls(0, 0);
        x.evenings(60);
        due("'LIKING (0 at first)': liked", x.about(0, LIKING), 300);
        x.house(HORSEHAIR, 1);
        due("'LIKING (0 at first)': of one that comes later", x.about(1, LIKING), 0);
        x.uplands(0);
        x.house(HORSEHAIR, 1);
        due("'LIKING (0 at first)': anew", x.about(0, LIKING), 0);
    }

    /** A plain one (5 parts) and a bishop (10, 8, 6, 4, 2: 4 parts from 3 on): 11 an evening; a third one has 1 part. */
    private static SieveGuests eleven() {
        SieveGuests x = Scenes.one(PLAIN, 10, SILK, 6);
        x.guest(BISHOP, 10);
        x.guest(BISHOP, 3);
        x.calls(0, 0);
        x.calls(1, 0);
        return x;
    }

    private static void likingEndsAt9999() {
        SieveGuests x = eleven();
        Scenes.pass(x, 900);
        due("'LIKING (0 .. 9999)': 900 evenings", x.count(ALL_LIKING), 9900);
        due("'THEN' one short", x.then(0, 8), 9988);
        due("'THEN' at the end", x.then(0, 9), 9999);
        due("'THEN' beyond the end", x.then(0, 10), 9999);
        due("'LIKING (0 .. 9999)': one short", x.evenings(8), 9988);
        due("'LIKING (0 .. 9999)': 9999 itself", x.evenings(1), 9999);
        due("'LIKING (0 .. 9999)': no more", x.evenings(1), 9999);
        due("'LIKING (0 .. 9999)': the EVENING goes on", x.count(EVENING), 910);
        due("'LIKING (0 .. 9999)': THEN no more", x.then(0, 60), 9999);
        due("'LIKING (0 .. 9999)': YEARS no more", x.years(0, 0), 9999);
        // As if 9999 was no end: 5, 4 and 1 parts, three pairs.
        due("'as if 9999 was no end'", x.place(NONE), 16);
        due("'9999 at most': undone", x.undo(), 909);
        due("'9999 at most': undone it is 9999 still", x.about(0, LIKING), 9999);
        x.undo();
        due("'9999 at most': undone once more", x.about(0, LIKING), 9988);
    }

    private static void likingStopsShortOf9999() {
        SieveGuests x = eleven();
        Scenes.pass(x, 908);
        x.leaves(1);
        due("'9999 at most': 9998 by 5 an evening", x.evenings(2), 9998);
        due("'9999 at most': 9998 and 5", x.then(0, 1), 9999);
        x.leaves(0);
        due("'9999 at most': 9998 and nothing", x.evenings(1), 9998);
        x.calls(2, 0);
        due("'9999 at most': 9998 and 1", x.evenings(1), 9999);
        due("'9999 at most': 9999 and 1", x.evenings(1), 9999);
        due("'9999 at most': 9999 and 60", x.evenings(60), 9999);
    }

    private static void likingOfEachHouseEndsApart() {
        SieveGuests x = eleven();
        x.house(HORSEHAIR, 1);
        x.guest(PARTY, 1);
        x.guest(PARTY, 1);
        x.calls(3, 1);
        x.calls(4, 1);
        Scenes.pass(x, 840);
        due("'LIKING of each HOUSE': 11 an evening", x.about(0, LIKING), 9240);
        due("'LIKING of each HOUSE': 12 an evening", x.about(1, LIKING), 9999);
        due("'LIKING of all HOUSES together' goes beyond 9999", x.count(ALL_LIKING), 19239);
        Scenes.pass(x, 120);
        due("'LIKING of all HOUSES together' of two at their end", x.count(ALL_LIKING), 19998);
        due("'LIKING of all HOUSES together': evenings", x.evenings(1), 19998);
        due("'LIKING of all HOUSES together': years", x.years(0, 60), 19998);
    }

    private static void eveningsAreZeroAtFirst() {
        SieveGuests x = Scenes.one(PLAIN, 5, HORSEHAIR, 1);
        due("'EVENINGS have numbers, 0 at first'", x.count(EVENING), 0);
        x.evenings(1);
        due("'EVENINGS have numbers': one more", x.count(EVENING), 1);
        x.evenings(60);
        due("'EVENINGS have numbers': 61", x.count(EVENING), 61);
        x.uplands(0);
        due("'EVENINGS have numbers, 0 at first': anew", x.count(EVENING), 0);
    }

    private static void eveningsEndAt999() {
        SieveGuests x = Scenes.one(PLAIN, 5, HORSEHAIR, 1);
        x.calls(0, 0);
        Scenes.pass(x, 960);
        x.image(0);
        due("'999 at most': 38 more", x.evenings(38), 4990);
        due("'999 at most': 998", x.count(EVENING), 998);
        due("'999 at most': one more", x.evenings(1), 4995);
        due("'999 at most': 999", x.count(EVENING), 999);
        due("'at 999 none goes by'", x.evenings(1), 4995);
        due("'at 999 none goes by': sixty", x.evenings(60), 4995);
        due("'at 999 none goes by': 999", x.count(EVENING), 999);
        due("'EVENINGS go beyond 999 in them': THEN", x.then(0, 1), 5000);
        x.from(0);
        due("'999 at most': 39 of 40 go by", x.evenings(40), 4995);
        due("'999 at most': 999 by 40", x.count(EVENING), 999);
        due("'999 at most': undone", x.undo(), 960);
        due("'999 at most': 39 of 60 go by", x.evenings(60), 4995);
        due("'999 at most': 999 by 60", x.count(EVENING), 999);
        x.undo();
        due("'999 at most': 39 of 39 go by", x.evenings(39), 4995);
        due("'999 at most': 999 by 39", x.count(EVENING), 999);
    }

    private static void wetIsZeroToFour() {
        SieveGuests x = new SieveGuests();
        due("'WET (0 at first)'", x.count(WET), 0);
        due("'WET (0 .. 4)': -1", x.wets(-1), BAD);
        due("'WET (0 .. 4)': 5", x.wets(5), BAD);
        due("'WET (0 .. 4)': 4", x.wets(4), 0);
        due("'WET (0 .. 4)': 0", x.wets(0), 4);
        due("'WET (0 .. 4)': uplands 5", x.uplands(5), BAD);
        due("'WET (0 .. 4)': uplands -1", x.uplands(-1), BAD);
        x.uplands(4);
        due("'WET (0 .. 4)': uplands 4", x.count(WET), 4);
        x.uplands(0);
        due("'WET (0 .. 4)': uplands 0", x.count(WET), 0);
    }

    // ---- kinds

    private static void isGreat(int kind, int size, int... parts) {
        SieveGuests x = new SieveGuests();
        x.guest(kind, size);
        for (int p = 0; p < parts.length; p++) {
            due("part " + p + " of kind " + kind + ", size " + size, x.great(0, p), parts[p]);
        }
    }

    private static void bishopsAreOneAtLeast() {
        isGreat(PLAIN, 1, 1, 1, 1, 1, 1);
        isGreat(PLAIN, 30, 30, 30, 30, 30, 30);
        isGreat(BISHOP, 1, 1, 1, 1, 1, 1);
        isGreat(BISHOP, 2, 2, 1, 1, 1, 1);
        isGreat(BISHOP, 3, 3, 1, 1, 1, 1);
        isGreat(BISHOP, 4, 4, 2, 1, 1, 1);
        isGreat(BISHOP, 5, 5, 3, 1, 1, 1);
        isGreat(BISHOP, 6, 6, 4, 2, 1, 1);
        isGreat(BISHOP, 7, 7, 5, 3, 1, 1);
        isGreat(BISHOP, 8, 8, 6, 4, 2, 1);
        isGreat(BISHOP, 9, 9, 7, 5, 3, 1);
        isGreat(BISHOP, 10, 10, 8, 6, 4, 2);
        isGreat(BISHOP, 30, 30, 28, 26, 24, 22);
    }

    private static void childrenAreHalfCutUp() {
        isGreat(CHILD, 1, 1, 1, 1, 1, 1);
        isGreat(CHILD, 2, 1, 1, 1, 1, 1);
        isGreat(CHILD, 3, 2, 2, 2, 2, 2);
        isGreat(CHILD, 29, 15, 15, 15, 15, 15);
        isGreat(CHILD, 30, 15, 15, 15, 15, 15);
    }

    private static void tinkersAreHoles() {
        isGreat(TINKER, 1, 1, 0, 1, 0, 1);
        isGreat(TINKER, 8, 8, 0, 4, 0, 1);
        isGreat(TINKER, 9, 9, 0, 5, 0, 1);
        isGreat(TINKER, 10, 10, 0, 6, 0, 2);
        isGreat(TINKER, 30, 30, 0, 26, 0, 22);
    }

    private static void partiesAndCoughs() {
        isGreat(PARTY, 1, 1, 2, 3, 4, 5);
        isGreat(PARTY, 30, 30, 31, 32, 33, 34);
        isGreat(COUGH, 1, 1, 1, 1, 1, 1);
        isGreat(COUGH, 2, 1, 1, 1, 1, 1);
        isGreat(COUGH, 3, 2, 2, 1, 1, 1);
        isGreat(COUGH, 29, 15, 15, 1, 1, 1);
        isGreat(COUGH, 30, 15, 15, 1, 1, 1);
    }

    /** From what on a part stays, told by what a mark leaves of the kinds of sieves: 0 .. 60 can be asked for. */
    private static void needs(int sieve, int mesh, int wet, int least) {
        String what = "sieve " + sieve + ", mesh " + mesh + ", wet " + wet + ", a part of ";
        SieveGuests x = new SieveGuests();
        x.house(sieve, mesh);
        for (int great = Math.max(0, least - 1); great <= Math.min(60, least); great++) {
            x.mark(0, mesh, wet, great, 1);
            due(what + great, x.kinds(0) >> sieve & 1, great == least ? 1 : 0);
            x.forget(2);
        }
        if (least >= 2 && least <= 30) {
            x.uplands(wet);
            x.house(sieve, mesh);
            x.guest(PLAIN, least);
            x.guest(PLAIN, least - 1);
            due(what + least + " stays", x.stays(0, 0), 31);
            due(what + (least - 1) + " does not", x.stays(1, 0), 0);
        }
    }

    private static void silkIsOneAtLeast() {
        needs(HORSEHAIR, 1, 0, 1);
        needs(HORSEHAIR, 30, 4, 30);
        needs(SILK, 1, 0, 1);
        needs(SILK, 3, 4, 1);
        needs(SILK, 4, 4, 1);
        needs(SILK, 5, 4, 2);
        needs(SILK, 30, 4, 27);
    }

    private static void wettedIsOneAtLeast() {
        needs(WETTED, 1, 0, 1);
        needs(WETTED, 4, 0, 1);
        needs(WETTED, 5, 0, 2);
        needs(WETTED, 5, 1, 1);
        needs(WETTED, 6, 1, 2);
        needs(WETTED, 1, 4, 1);
        needs(WETTED, 7, 4, 1);
        needs(WETTED, 8, 4, 1);
        needs(WETTED, 9, 4, 2);
        needs(WETTED, 30, 0, 27);
        needs(WETTED, 30, 4, 23);
        // Silk is 1 at least before it is wetted: of mesh 2 it is not less than 1 by any wet.
        needs(WETTED, 2, 3, 1);
    }

    private static void coarseOldAndFine() {
        needs(COARSE, 1, 4, 5);
        needs(COARSE, 26, 0, 30);
        needs(COARSE, 30, 0, 34);
        needs(OLD, 1, 4, 10);
        needs(OLD, 11, 0, 30);
        needs(OLD, 26, 0, 60);
        needs(OLD, 27, 0, 62);
        needs(OLD, 30, 0, 68);
        needs(FINE, 1, 4, 1);
        needs(FINE, 4, 0, 1);
        needs(FINE, 5, 0, 1);
        needs(FINE, 6, 0, 2);
        needs(FINE, 7, 0, 2);
        needs(FINE, 8, 0, 3);
        needs(FINE, 9, 4, 1);
        needs(FINE, 10, 4, 2);
        needs(FINE, 30, 0, 14);
        needs(FINE, 30, 4, 12);
    }

    private static void partsStayFromTheLeastOn() {
        SieveGuests x = Scenes.one(PARTY, 30, COARSE, 30);
        due("'great enough (at least)': of 30 .. 34 only 34 stays from 34 on", x.stays(0, 0), 16);
        x.guest(TINKER, 30);
        x.house(HORSEHAIR, 1);
        due("'great enough (at least)': parts of 0 never stay", x.stays(1, 1), 21);
        x.guest(BISHOP, 9);
        x.house(HORSEHAIR, 5);
        due("'great enough (at least)': 9, 7, 5 stay from 5 on, 3, 1 do not", x.calls(2, 2), 7);
    }

    private static void staysByWetAsItIs() {
        SieveGuests x = Scenes.one(BISHOP, 9, WETTED, 10);
        // 9, 7, 5, 3, 1; from 7 on dry, from 3 on by wet 4.
        due("'by WET as it is': when it calls", x.calls(0, 0), 3);
        x.evenings(1);
        x.wets(4);
        due("'at any time that it is AT it': wet 4", x.of(0, STAYING), 15);
        due("'at any time that it is AT it': COMPANY", x.about(0, COMPANY), 4);
        due("'at any time that it is AT it': EVENINGS", x.evenings(1), 6);
        x.wets(0);
        due("'at any time that it is AT it': dry again", x.of(0, STAYING), 3);
        x.leaves(0);
        due("'the HOUSE (AT HOME 0)': nothing stays at home", x.of(0, STAYING), 0);
    }

    // ---- evenings

    private static void pairsNeedSomethingOfBoth() {
        SieveGuests x = new SieveGuests();
        x.house(HORSEHAIR, 9);
        x.guest(BISHOP, 9);
        x.guest(BISHOP, 10);
        x.guest(BISHOP, 8);
        due("'each two GUESTS': nobody", x.about(0, PAIRS), 0);
        x.calls(0, 0);
        due("'each two GUESTS': one alone", x.about(0, PAIRS), 0);
        x.calls(2, 0);
        due("'of whom something STAYS': nothing of the other", x.about(0, PAIRS), 0);
        due("'of whom something STAYS': one part", x.about(0, COMPANY), 1);
        x.calls(1, 0);
        due("'of whom something STAYS': one part of each", x.about(0, PAIRS), 1);
        due("'of whom something STAYS': two parts", x.about(0, COMPANY), 2);
        due("'more by 2 for each two GUESTS'", x.evenings(1), 4);
        SieveGuests crowd = Scenes.full();
        due("'each two GUESTS': of six", crowd.about(1, PAIRS), 15);
        due("'how many PARTS STAY': of six", crowd.about(1, COMPANY), 30);
        crowd.leaves(5);
        due("'each two GUESTS': of five", crowd.about(1, PAIRS), 10);
    }

    private static void eveningsAddCompanyAndPairs() {
        SieveGuests x = Scenes.one(PLAIN, 5, HORSEHAIR, 5);
        x.house(HORSEHAIR, 6);
        x.guest(PLAIN, 6);
        x.guest(PLAIN, 5);
        due("'AN EVENING': all at home", x.evenings(1), 0);
        x.calls(0, 1);
        due("'AN EVENING': all in the kitchen", x.evenings(1), 0);
        x.calls(1, 1);
        due("'AN EVENING': one sits alone", x.evenings(1), 5);
        x.calls(0, 0);
        due("'AN EVENING': one at each house", x.evenings(1), 15);
        x.calls(2, 0);
        due("'AN EVENING': two and one", x.evenings(1), 32);
        due("'AN EVENING': the first house", x.about(0, LIKING), 17);
        due("'the EVENING is one more'", x.count(EVENING), 5);
    }

    // ---- undone, images

    private static void eightMayBeUndone() {
        SieveGuests x = Scenes.one(PLAIN, 5, HORSEHAIR, 1);
        for (int k = 0; k < 8; k++) {
            due("'8 at most': so many", x.count(UNDONE), k);
            x.evenings(1);
        }
        due("'8 at most': eight", x.count(UNDONE), 8);
        x.image(0);
        due("'8 at most': the eighth", goBack(x, 7), 1);
        due("'8 at most': the first of eight", x.undo(), 0);
        due("'8 at most': none is left", x.undo(), NO);
        x.from(0);
        x.evenings(1);
        due("'8 at most': nine are eight", x.count(UNDONE), 8);
        due("'8 at most': the second of nine", goBack(x, 7), 2);
        due("'8 at most': the first but one of nine", x.undo(), 1);
        due("'8 at most': the first of nine is gone", x.undo(), NO);
        due("'8 at most': the EVENING stays there", x.count(EVENING), 1);
        x.from(0);
        for (int k = 0; k < 20; k++) {
            x.wets(1 + k % 2);
        }
        due("'8 at most': of 28 too", x.count(UNDONE), 8);
        due("'8 at most': the EVENING of the last 8", goBack(x, 8), 8);
        due("'8 at most': the WET ahead of them", x.count(WET), 2);
        due("'8 at most': no more", x.undo(), NO);
    }

    /** So many times; the last answer. */
    private static int goBack(SieveGuests x, int times) {
        int answer = 0;
        for (int k = 0; k < times; k++) {
            answer = x.undo();
        }
        return answer;
    }

    private static void eachKindIsUndone() {
        SieveGuests x = Scenes.one(PLAIN, 5, HORSEHAIR, 1);
        x.house(HORSEHAIR, 1);
        x.calls(0, 0);
        x.evenings(60);
        x.wets(3);
        x.calls(0, 1);
        x.leaves(0);
        due("'UNDO: going HOME': the EVENING then", x.undo(), 60);
        due("'UNDO: going HOME': where it was", x.of(0, PLACE), 1);
        due("'UNDO: CALLING': the EVENING then", x.undo(), 60);
        due("'UNDO: CALLING': where it was", x.of(0, PLACE), 0);
        due("'UNDO: CALLING': WET is the same", x.count(WET), 3);
        due("'UNDO: WET told': the EVENING then", x.undo(), 60);
        due("'UNDO: WET told': what it was", x.count(WET), 0);
        due("'UNDO: WET told': LIKING is the same", x.count(ALL_LIKING), 300);
        due("'UNDO: EVENINGS gone by': all sixty are one", x.undo(), 0);
        due("'UNDO: EVENINGS gone by': LIKING", x.count(ALL_LIKING), 0);
        due("'UNDO: EVENINGS gone by': it is there still", x.of(0, PLACE), 0);
        due("'UNDO': the first", x.undo(), 0);
        due("'UNDO': it is AT HOME", x.of(0, PLACE), NONE);
        due("'UNDO': none", x.undo(), NO);
    }

    /** Six guests, four houses: each has its own to go back to. */
    private static void allAreUndone() {
        SieveGuests x = new SieveGuests();
        for (int h = 0; h < 4; h++) {
            x.house(HORSEHAIR, 1);
        }
        for (int i = 0; i < 6; i++) {
            x.guest(PLAIN, 5);
        }
        int[] at = {3, 2, 1, 0, 3, 2};
        for (int i = 0; i < 5; i++) {
            x.calls(i, at[i]);
        }
        // Five parts for each, and a pair at the fourth house.
        x.evenings(1);
        x.calls(5, 2);
        x.evenings(10);
        x.undo();
        int[] liking = {5, 5, 5, 12};
        for (int h = 0; h < 4; h++) {
            due("'UNDO: LIKING' of house " + h, x.about(h, LIKING), liking[h]);
        }
        for (int i = 0; i < 6; i++) {
            due("'UNDO: where GUESTS are', guest " + i, x.of(i, PLACE), at[i]);
        }
        x.undo();
        due("'UNDO: where GUESTS are': the last", x.of(5, PLACE), NONE);
        x.undo();
        due("'UNDO: LIKING': of all", x.count(ALL_LIKING), 0);
        x.undo();
        due("'UNDO: where GUESTS are': the one ahead of it", x.of(4, PLACE), NONE);
        due("'UNDO: where GUESTS are': not the others", x.of(3, PLACE), 0);
    }

    private static void noneMayBeUndone() {
        SieveGuests x = Scenes.one(PLAIN, 5, HORSEHAIR, 1);
        due("'none may be': behind the first guest, the first house", x.undo(), NO);
        x.wets(1);
        x.wets(2);
        x.guest(PLAIN, 1);
        due("'behind a GUEST that comes none may be'", x.undo(), NO);
        due("'behind a GUEST that comes none may be': WET stays", x.count(WET), 2);
        x.wets(3);
        due("'behind a GUEST that comes': but what came since", x.undo(), 0);
        x.wets(1);
        x.house(HORSEHAIR, 1);
        due("'behind a HOUSE that comes none may be'", x.undo(), NO);
        x.wets(4);
        x.guest(PLAIN, 0);
        x.house(HORSEHAIR, 31);
        due("'none may be': one that was refused did not come", x.count(UNDONE), 1);
        x.uplands(0);
        due("'nothing to undo': uplands", x.undo(), NO);
        x.wets(4);
        Scenes.reads(x, "uplands 1;guest 0 5;house 0 1;call 0 0;evenings 5;home 0;");
        due("'nothing to undo': read", x.undo(), NO);
        due("'nothing to undo': none", x.count(UNDONE), 0);
    }

    private static void imagesAreTwo() {
        SieveGuests x = new SieveGuests();
        due("'IMAGES 0, 1': -1", x.image(-1), BAD);
        due("'IMAGES 0, 1': 2", x.image(2), BAD);
        due("'none was kept': 0", x.from(0), NO);
        due("'none was kept': 1", x.from(1), NO);
        due("'IMAGES 0, 1': 1", x.image(1), 1);
        due("'none was kept': 0 still", x.from(0), NO);
        x.wets(3);
        due("'IMAGES 0, 1': 0", x.image(0), 1);
        due("'IMAGES 0, 1': from 1", x.from(1), 1);
        due("'IMAGES 0, 1': the WET of 1", x.count(WET), 0);
        due("'IMAGES 0, 1': from 0", x.from(0), 1);
        due("'IMAGES 0, 1': the WET of 0", x.count(WET), 3);
        x.uplands(1);
        due("'all but IMAGES': kept behind uplands", x.from(0), 1);
        Scenes.reads(x, "uplands 2;");
        due("'all but IMAGES': kept behind read", x.from(1), 1);
        due("'IMAGES 0, 1': -1 is none", x.from(-1), BAD);
        due("'IMAGES 0, 1': 2 is none", x.from(2), BAD);
    }

    private static void imagesKeepAllButSome() {
        SieveGuests x = Scenes.full();
        x.image(1);
        long kept = x.digest();
        due("'what may be undone they keep': eight", x.count(UNDONE), 8);
        x.uplands(0);
        due("'it goes on from one'", x.from(1), 1);
        due("'IMAGES keep all'", x.digest(), kept);
        due("'what may be undone they keep': the EVENING", x.undo(), 999);
        due("'what may be undone they keep': seven", x.count(UNDONE), 7);
        x.clear();
        x.rain(0, 5);
        x.undo();
        x.wets(9);
        int bad = x.status(0);
        x.from(1);
        due("'all but THE TEXT'", x.count(10), 0);
        due("'all but THE FRACTION'", x.part(0), 20);
        due("'all but STATUS'", x.status(0), bad);
        due("'what may be undone they keep': eight again", x.count(UNDONE), 8);
        due("'IMAGES keep all': SEEN", x.count(6), 5);
        due("'IMAGES keep all': NOTES", x.count(7), 6);
        due("'IMAGES keep all': MARKS", x.count(8), 6);
        keptFromOthers();
    }

    /** What comes behind the image takes the places of all that it keeps. */
    private static void keptFromOthers() {
        SieveGuests x = Scenes.full();
        x.image(0);
        long kept = x.digest();
        x.uplands(1);
        for (int i = 0; i < 6; i++) {
            x.guest(TINKER, 1);
        }
        for (int h = 0; h < 4; h++) {
            x.house(FINE, 29);
        }
        for (int k = 0; k < 6; k++) {
            x.seen(1, 1, 1, 1);
            x.note(1, 1, 1, 1);
            x.mark(1, 1, 1, 1, 0);
        }
        for (int k = 0; k < 9; k++) {
            x.calls(0, k % 4);
        }
        x.from(0);
        due("'IMAGES keep all': and all else is gone", x.digest(), kept);
        due("'what may be undone they keep': in place of the others: wets", x.undo(), 999);
        due("'what may be undone they keep': in place of the others: 39 evenings", x.undo(), 960);
        due("'what may be undone they keep': in place of the others: 60 evenings", x.undo(), 900);
        due("'what may be undone they keep': where they were", x.of(0, 2), 1);
        x.from(0);
        due("'IMAGES keep all': as often as it is asked for", x.digest(), kept);
    }

    private static void fractionIsZeroByOneAtFirst() {
        SieveGuests x = new SieveGuests();
        due("'THE FRACTION is 0 by 1 at first': above", x.part(0), 0);
        due("'THE FRACTION is 0 by 1 at first': below", x.part(1), 1);
        x.guest(BISHOP, 12);
        x.rain(0, 7);
        due("'lowest terms': no house, 0 above", x.part(0), 0);
        due("'lowest terms': no house, 1 below", x.part(1), 1);
        // 12, 10, 8, 6, 4: four from 6 on dry, five from 2 on by wet 4.
        x.house(WETTED, 9);
        int[][] parts = {{4, 1}, {41, 10}, {21, 5}, {43, 10}, {22, 5}, {9, 2}, {23, 5}, {47, 10}, {24, 5}, {49, 10}, {5, 1}};
        for (int c = 0; c < parts.length; c++) {
            x.rain(0, c);
            due("'lowest terms': above, " + c + " of 10", x.part(0), parts[c][0]);
            due("'below above 0': below, " + c + " of 10", x.part(1), parts[c][1]);
        }
    }
}
