import java.util.function.Supplier;

/** For each sentence on THE TEXT that names an edge: both sides of it, and that a fault leaves all, STATUS too. */
public final class TextEdgeTests {
    private static final int NONE = -1, NO = -3, FULL = -4;
    private static final int GUESTS = 0, HOUSES = 1, EVENING = 2, WET = 3, ALL_LIKING = 5, UNDONE = 9, BYTES = 10;
    private static final String SIX_GUESTS = "guest0 1;guest1 2;guest2 3;guest3 4;guest4 5;guest5 6;";
    private static final String FOUR_HOUSES = "house0 1;house1 2;house2 3;house3 4;";
    private static final Due DUE = new Due("TextEdgeTests");

    public static void main(String[] args) {
        bytesAreZeroTo127();
        textHas150Bytes();
        clearedTexts();
        itemsAreCounted();
        eachItemEnds();
        uplandsOnceFirstOfAll();
        wetIsZeroToFour();
        kindsAndSizes();
        kindsAndMeshes();
        sixGuests();
        fourHouses();
        callsWhereBothAre();
        homeWhoIsThere();
        eveningsAreOneTo99();
        eveningsEndAt999();
        likingEndsAt9999();
        wordsAreLetters();
        figuresAreOneOrTwo();
        blanksAnywhere();
        blanksBetween();
        bytesThatBeginNone();
        endsTooEarly();
        takesThePlaceOfAllButSome();
        DUE.end();
    }

    private static void due(String what, long got, long want) {
        DUE.is(what, got, want);
    }

    /** The text is read, and has so many items. */
    private static SieveGuests sound(String text, int items) {
        SieveGuests x = new SieveGuests();
        due("'" + text + "': ITEMS", Scenes.reads(x, text), items);
        due("'" + text + "': no refusal", x.status(0) + x.status(1) + x.status(2), 0);
        return x;
    }

    private static void fault(String text, int place) {
        faultOf("'" + text + "': the FAULT", () -> written(text), place);
    }

    private static void faultOf(String what, Supplier<SieveGuests> scene, int place) {
        Twins.changesNothing(DUE, what, scene, SieveGuests::read, -10 - place);
    }

    private static SieveGuests written(String text) {
        SieveGuests x = Scenes.seated(3, 2, 1);
        x.evenings(9);
        Scenes.write(x, text);
        return x;
    }

    // ---- bytes

    private static void bytesAreZeroTo127() {
        Twins.refused(DUE, "'A byte (0 .. 127)': -1", Scenes::nobody, x -> x.type(-1), -2, -2);
        Twins.refused(DUE, "'A byte (0 .. 127)': 128", Scenes::nobody, x -> x.type(128), -2, -2);
        SieveGuests x = new SieveGuests();
        due("'comes behind THE TEXT: how many it has': 0", x.type(0), 1);
        due("'comes behind THE TEXT: how many it has': 127", x.type(127), 2);
        due("'comes behind THE TEXT': it has two", x.count(BYTES), 2);
        due("'a byte that begins none'", x.read(), -10);
    }

    private static void textHas150Bytes() {
        SieveGuests x = new SieveGuests();
        for (int k = 1; k <= 149; k++) {
            due("'150 bytes at most': byte " + k, x.type(' '), k);
        }
        due("'150 bytes at most': the last", x.type(';'), 150);
        due("'150 bytes at most': one more", x.type(';'), FULL);
        due("'150 bytes at most': 150", x.count(BYTES), 150);
        due("'150 bytes at most': the last is the FAULT", x.read(), -10 - 149);
        Scenes.write(x, " ".repeat(150));
        due("'the TEXT's length': of 150 blanks", x.read(), -10 - 150);
        String evenings = "evenings 1;".repeat(12);
        sound("uplands0;" + evenings + "guest0 1;", 14);
        fault("uplands0;" + evenings + "guest0 1 ", 150);
        fault("uplands0;" + evenings + "guest0 1", 149);
        fault("uplands0;" + evenings + "guest0 1:", 149);
        fault("uplands0;" + evenings + "guest0 11", 150);
        fault("uplands0;" + evenings + "guest0111", 146);
        fault("uplands0;" + evenings + "    guest", 150);
        fault("uplands0;" + evenings + "   guests", 144);
    }

    private static void clearedTexts() {
        SieveGuests x = new SieveGuests();
        due("'THE TEXT is empty: how many it had': nothing", x.clear(), 0);
        due("'an empty one, too'", x.read(), -10);
        Scenes.write(x, " ".repeat(150));
        due("'THE TEXT is empty: how many it had': all", x.clear(), 150);
        due("'THE TEXT is empty'", x.count(BYTES), 0);
        due("'THE TEXT is empty': what was there is not read", x.read(), -10);
        due("'THE TEXT is empty': the first comes anew", x.type('u'), 1);
        due("'THE TEXT is empty': what was there does not end it", x.read(), -10);
        sound("uplands 3;guest 0 1;", 2);
        Scenes.reads(x, "uplands 3;guest 0 1;");
        Scenes.write(x, "uplands 2;");
        due("'THE TEXT is empty': a shorter one", x.read(), 1);
        due("'THE TEXT is empty': its WET", x.count(WET), 2);
        due("'THE TEXT is empty': nobody of the longer one", x.count(GUESTS), 0);
    }

    // ---- items

    private static void itemsAreCounted() {
        sound("uplands0;", 1);
        sound("uplands0;evenings1;", 2);
        sound("uplands0;guest0 1;house0 1;call0 0;evenings1;home0;", 6);
        sound("uplands0;guest0 1;" + "home0;".repeat(22), 24);
        fault("uplands0;guest0 1;" + "home0;".repeat(21) + "home0 ", 150);
    }

    private static void eachItemEnds() {
        fault("uplands 0", 9);
        fault("uplands 0 guest 0 1;", 10);
        fault("uplands 0;guest 0 1 house 0 1;", 20);
        fault("uplands 0;guest 0 1 1;", 20);
        fault("uplands 0;house 0 1 1;", 20);
        fault("uplands 0;evenings 1 1;", 21);
        fault("uplands 0;guest 0 1;home 0 0;", 27);
        fault("uplands 0;guest 0 1;house 0 1;call 0 0 0;", 39);
        fault("uplands 0 0;", 10);
        fault("uplands 0;;", 10);
        fault(";uplands 0;", 0);
        fault("uplands;0;", 7);
        fault("uplands 0;guest;", 15);
        fault("uplands 0;guest 0;", 17);
        fault("uplands 0;guest 0;1;", 17);
    }

    private static void uplandsOnceFirstOfAll() {
        fault("guest 0 1;uplands 0;", 0);
        fault("  evenings 1;", 2);
        fault("home 0;", 0);
        fault("7;", 0);
        fault("uplands 0;uplands 0;", 10);
        fault("uplands 0;guest 0 1;uplands 1;", 20);
        fault("uplands 0;guest 0 1;uplands", 20);
        fault("uplands uplands 0;", 8);
    }

    private static void wetIsZeroToFour() {
        due("'uplands WET': 0", sound("uplands 0;", 1).count(WET), 0);
        due("'uplands WET': 4", sound("uplands 4;", 1).count(WET), 4);
        due("'uplands WET': 04", sound("uplands 04;", 1).count(WET), 4);
        fault("uplands 5;", 8);
        fault("uplands 05;", 8);
        fault("uplands 99;", 8);
        fault("uplands -1;", 8);
    }

    private static void kindsAndSizes() {
        SieveGuests x = sound("uplands 0;guest 0 1;guest 5 30;guest 05 01;", 4);
        due("'guest KIND SIZE': the least KIND", x.of(0, 0), 0);
        due("'guest KIND SIZE': the least SIZE", x.of(0, 1), 1);
        due("'guest KIND SIZE': the greatest KIND", x.of(1, 0), 5);
        due("'guest KIND SIZE': the greatest SIZE", x.of(1, 1), 30);
        due("'guest KIND SIZE': two figures", x.of(2, 0) * 100 + x.of(2, 1), 501);
        due("'guest KIND SIZE': AT HOME at first", x.of(2, 2), NONE);
        fault("uplands 0;guest 6 1;", 16);
        fault("uplands 0;guest 06 1;", 16);
        fault("uplands 0;guest 0 0;", 18);
        fault("uplands 0;guest 0 00;", 18);
        fault("uplands 0;guest 0 31;", 18);
        fault("uplands 0;guest 6 31;", 16);
        fault("uplands 0;guest plain 1;", 16);
    }

    private static void kindsAndMeshes() {
        SieveGuests x = sound("uplands 0;house 0 1;house 5 30;house 05 01;", 4);
        due("'house KIND MESH': the least KIND", x.about(0, 0), 0);
        due("'house KIND MESH': the least MESH", x.about(0, 1), 1);
        due("'house KIND MESH': the greatest KIND", x.about(1, 0), 5);
        due("'house KIND MESH': the greatest MESH", x.about(1, 1), 30);
        due("'house KIND MESH': two figures", x.about(2, 0) * 100 + x.about(2, 1), 501);
        due("'house KIND MESH': LIKING 0 at first", x.about(2, 2), 0);
        fault("uplands 0;house 6 1;", 16);
        fault("uplands 0;house 06 1;", 16);
        fault("uplands 0;house 0 0;", 18);
        fault("uplands 0;house 0 00;", 18);
        fault("uplands 0;house 0 31;", 18);
        fault("uplands 0;house 6 31;", 16);
    }

    private static void sixGuests() {
        due("'a 7th guest': six", sound("uplands0;" + SIX_GUESTS, 7).count(GUESTS), 6);
        fault("uplands0;" + SIX_GUESTS + "guest0 1;", 63);
        fault("uplands0;" + SIX_GUESTS + "guest9 99;", 63);
        fault("uplands0;" + SIX_GUESTS + "guest", 63);
        fault("uplands0;" + SIX_GUESTS + "  guest;", 65);
        sound("uplands0;" + SIX_GUESTS + FOUR_HOUSES, 11);
    }

    private static void fourHouses() {
        due("'a 5th house': four", sound("uplands0;" + FOUR_HOUSES, 5).count(HOUSES), 4);
        fault("uplands0;" + FOUR_HOUSES + "house0 1;", 45);
        fault("uplands0;" + FOUR_HOUSES + "house9 99;", 45);
        fault("uplands0;" + FOUR_HOUSES + "house", 45);
        fault("uplands0;" + FOUR_HOUSES + "  house;", 47);
        sound("uplands0;" + FOUR_HOUSES + SIX_GUESTS, 11);
    }

    private static void callsWhereBothAre() {
        String two = "uplands0;guest0 9;guest0 9;house0 1;house0 1;";
        SieveGuests x = sound(two + "call 1 1;call 0 0;", 7);
        due("'call i h': the last GUEST, the last HOUSE", x.of(1, 2), 1);
        due("'call i h': the first GUEST, the first HOUSE", x.of(0, 2), 0);
        due("'call i h': two figures", sound(two + "call 01 01;", 6).of(1, 2), 1);
        due("'they may be so already': AT it", sound(two + "call0 1;call0 1;", 7).of(0, 2), 1);
        due("'call i h': at another one", sound(two + "call0 1;call0 0;", 7).of(0, 2), 0);
        fault(two + "call 2 0;", 50);
        fault(two + "call 0 2;", 52);
        fault(two + "call 2 2;", 50);
        fault(two + "call 99 0;", 50);
        fault("uplands0;call 0 0;", 14);
        fault("uplands0;house0 1;call 0 0;", 23);
        fault("uplands0;guest0 9;call 0 0;", 25);
        fault("uplands0;guest0 9;call 0 0;house0 1;", 25);
        fault("uplands0;guest0 9;house0 1;calls 0 0;", 27);
    }

    private static void homeWhoIsThere() {
        String one = "uplands0;guest0 9;house0 1;call0 0;";
        due("'home i'", sound(one + "home 0;", 5).of(0, 2), NONE);
        due("'they may be so already': AT HOME", sound(one + "home 0;home 0;", 6).of(0, 2), NONE);
        due("'they may be so already': AT HOME at first", sound("uplands0;guest0 9;home00;", 3).of(0, 2), NONE);
        fault(one + "home 1;", 40);
        fault("uplands0;home 0;", 14);
        fault("uplands0;house0 1;home 0;", 23);
        fault("uplands0;home 0;guest 0 1;", 14);
    }

    // ---- evenings

    private static void eveningsAreOneTo99() {
        String one = "uplands0;guest0 9;house0 1;call0 0;";
        due("'evenings n (1 .. 99)': 1", sound(one + "evenings 1;", 5).count(ALL_LIKING), 5);
        due("'evenings n (1 .. 99)': 99", sound(one + "evenings 99;", 5).count(ALL_LIKING), 495);
        due("'evenings n (1 .. 99)': 61", sound(one + "evenings 61;", 5).count(EVENING), 61);
        due("'where it stands': ahead of going home", sound(one + "evenings 2;home0;evenings 3;", 7).count(ALL_LIKING), 10);
        due("'where it stands': a house that comes behind", sound("uplands0;evenings9;house0 1;", 3).count(EVENING), 9);
        fault("uplands 0;evenings 0;", 19);
        fault("uplands 0;evenings 00;", 19);
        fault("uplands 0;evenings 100;", 19);
        fault("uplands 0;evenings 099;", 19);
    }

    private static void eveningsEndAt999() {
        SieveGuests x = sound("uplands0;" + "evenings99;".repeat(10) + "evenings 8;", 12);
        due("'999 at most': 998", x.count(EVENING), 998);
        x = sound("uplands0;" + "evenings99;".repeat(10) + "evenings 9;", 12);
        due("'999 at most': 999", x.count(EVENING), 999);
        x = sound("uplands0;" + "evenings99;".repeat(10) + "evenings10;", 12);
        due("'999 at most': of 1000", x.count(EVENING), 999);
        x = sound("uplands0;" + "evenings99;".repeat(12), 13);
        due("'999 at most': of 1188", x.count(EVENING), 999);
        x = sound("uplands0;guest0 9;house0 1;call0 0;" + "evenings99;".repeat(10), 14);
        due("'999 at most': LIKING of 990", x.count(ALL_LIKING), 4950);
        due("'999 at most': LIKING of nine more", x.evenings(60), 4995);
    }

    /** Three plain guests, fifteen parts and three pairs: 21 an evening. */
    private static void likingEndsAt9999() {
        String three = "uplands0;guest0 9;guest0 9;guest0 9;house0 1;call0 0;call1 0;call2 0;";
        due("'9999 at most': 476 evenings", sound(three + "evenings99;".repeat(4) + "evenings80;", 13).count(ALL_LIKING), 9996);
        due("'9999 at most': 477 evenings", sound(three + "evenings99;".repeat(4) + "evenings81;", 13).count(ALL_LIKING), 9999);
        due("'9999 at most': 693 evenings", sound(three + "evenings99;".repeat(7), 15).count(ALL_LIKING), 9999);
    }

    // ---- tokens

    private static void wordsAreLetters() {
        fault("upland 0;", 0);
        fault("uplandss 0;", 0);
        fault("Uplands 0;", 0);
        fault("uplandS 0;", 0);
        fault("uplands 0;a;", 10);
        fault("uplands 0;z;", 10);
        fault("uplands 0;guests 0 1;", 10);
        fault("uplands 0;gues 0 1;", 10);
        fault("uplands 0;houses 0 1;", 10);
        fault("uplands 0;calls 0 1;", 10);
        fault("uplands 0;homes 0;", 10);
        fault("uplands 0;evening 1;", 10);
        fault("uplands 0;guestguest 0 1;", 10);
        fault("uplands 0;gu est 0 1;", 10);
        fault("uplands x;", 8);
        fault("uplands guest;", 8);
        for (String word : new String[] {"guest", "house", "call", "home", "evenings"}) {
            for (int k = 0; k < word.length(); k++) {
                fault("uplands0;" + word.substring(0, k) + "x" + word.substring(k + 1) + " 1 1;", 9);
            }
        }
        for (int k = 0; k < 7; k++) {
            fault("uplands".substring(0, k) + "x" + "uplands".substring(k + 1) + " 1;", 0);
        }
    }

    private static void figuresAreOneOrTwo() {
        sound("uplands 0;guest 1 1;", 2);
        sound("uplands 00;guest 01 01;", 2);
        fault("uplands 000;", 8);
        fault("uplands 0000000000000;", 8);
        fault("uplands 4294967296;", 8);
        fault("uplands 0;guest 001 1;", 16);
        fault("uplands 0;guest 1 001;", 18);
        fault("uplands 0;guest 01;", 18);
        fault("uplands 0;guest 123;", 16);
        fault("123 uplands 0;", 0);
        fault("uplands 0;123;", 10);
        fault("uplands 0;12;", 10);
        fault("uplands 0 123;", 10);
    }

    private static void blanksAnywhere() {
        SieveGuests x = sound("   uplands   2   ;   guest   5   30   ;   ", 2);
        due("'blanks, any number': the GUEST", x.of(0, 0) * 100 + x.of(0, 1), 530);
        sound("uplands 2;" + " ".repeat(140), 1);
        sound(" ".repeat(140) + "uplands 2;", 1);
        fault("\tuplands 2;", 0);
        fault("uplands\t2;", 7);
        fault("uplands 2\n;", 9);
        fault("uplands 2;\0", 10);
        fault("uplands 2; \r", 11);
    }

    private static void blanksBetween() {
        SieveGuests x = sound("uplands2;guest5 30;house4 29;call0 0;evenings9;home0;", 6);
        due("'needed only between two numbers': the GUEST", x.of(0, 0) * 100 + x.of(0, 1), 530);
        fault("uplands2;guest530;", 14);
        fault("uplands2;guest53;", 14);
        fault("uplands2;guest5;", 15);
        fault("uplands2guest5 30;", 8);
        fault("uplandsguest", 0);
    }

    private static void bytesThatBeginNone() {
        for (char c : "\0\37!/:<@AZ[^_`{|}~\177".toCharArray()) {
            fault(c + "uplands 0;", 0);
            fault("uplands" + c + " 0;", 7);
            fault("uplands 0" + c + ";", 9);
            fault("uplands 0;" + c, 10);
        }
    }

    /** The answer to each beginning of a sound text: a word that is not whole is none. */
    private static void endsTooEarly() {
        String text = "uplands 4;guest 5 30; ";
        int[] due = {-10, -10, -10, -10, -10, -10, -10, -17, -18, -19, 1, -20, -20, -20, -20, -25, -26, -27, -28, -29, -30,
            2, 2};
        for (int length = 0; length < due.length; length++) {
            String begun = text.substring(0, length);
            SieveGuests x = new SieveGuests();
            due("'if it ends too early': '" + begun + "'", Scenes.reads(x, begun), due[length]);
        }
        behindLonger("uplandss", "uplands", 7);
        behindLonger("uplands 00;", "uplands 0", 9);
        behindLonger("uplands 0;guest 1 12;", "uplands 0;guest 1 1", 19);
        behindLonger("uplands 0;guest 1 123", "uplands 0;guest 1 12", 20);
        behindLonger("uplands 0;guest 1 1;", "uplands 0;guest 1 1", 19);
        behindLonger("uplands 0;guests", "uplands 0;guest", 15);
        fault("", 0);
        fault(" ", 1);
        fault("uplands   ", 10);
        fault("uplands 0   ", 12);
        fault("uplands 0;guest  ", 17);
        fault("uplands 0;guest 0  ", 19);
    }

    /** What a longer text had behind the end of this one is not read. */
    private static void behindLonger(String longer, String text, int place) {
        SieveGuests x = new SieveGuests();
        Scenes.write(x, longer);
        due("'THE TEXT is empty': '" + text + "' behind '" + longer + "'", Scenes.reads(x, text), -10 - place);
    }

    private static void takesThePlaceOfAllButSome() {
        SieveGuests x = Scenes.full();
        long evening = x.count(EVENING);
        due("'UPLANDS that are read'", x.read(), 1);
        int[] counts = {0, 0, 0, 3, 0, 0, 0, 0, 0, 0, 150};
        for (int what = 0; what < counts.length; what++) {
            due("'take the place of all': count(" + what + ")", x.count(what), counts[what]);
        }
        due("'nothing to undo'", x.undo(), NO);
        due("'all but IMAGES'", x.from(1), 1);
        due("'all but IMAGES': its EVENING", x.count(EVENING), evening);
        x.rain(0, 0);
        int status = x.status(1);
        Scenes.reads(x, "uplands 0;guest 0 5;");
        due("'all but THE TEXT'", x.count(BYTES), 20);
        due("'all but THE FRACTION'", x.part(0), 20);
        due("'all but STATUS'", x.status(1), status);
        due("'none may be': what the image kept is not undone", x.count(UNDONE), 0);
        due("'all': SEEN ones none", x.sizes(0, 0), 30);
        due("'all': NOTES none", x.is(0), 63);
    }
}
