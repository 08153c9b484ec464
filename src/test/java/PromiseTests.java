/** For each promise of the document its ordinary answers, its edges and its refusals, worked out by hand. */
public final class PromiseTests {
    private static final int NONE = -1, BAD = -2, NO = -3, FULL = -4;
    private static final int PLAIN = 0, BISHOP = 1, CHILD = 2, TINKER = 3, PARTY = 4, COUGH = 5;
    private static final int HORSEHAIR = 0, SILK = 1, COARSE = 2, WETTED = 3, OLD = 4, FINE = 5;
    private static final Due DUE = new Due("PromiseTests");

    public static void main(String[] args) {
        newObject();
        uplands();
        guest();
        house();
        type();
        clear();
        read();
        readFaults();
        calls();
        leaves();
        wets();
        evenings();
        undo();
        of();
        about();
        great();
        stays();
        then();
        when();
        most();
        round();
        mesh();
        place();
        seen();
        sizes();
        tell();
        note();
        mark();
        forget();
        is();
        look();
        kinds();
        ask();
        rivals();
        rain();
        years();
        part();
        image();
        from();
        status();
        count();
        digest();
        questionsChangeNothing();
        refusalsChangeNothing();
        DUE.end();
    }

    private static void due(String what, long got, long want) {
        DUE.is(what, got, want);
    }

    /** Three guests at home (10, a bishop of 10, a tinker of 9), horsehair and silk of mesh 6. */
    private static SieveGuests supper() {
        SieveGuests x = new SieveGuests();
        x.guest(PLAIN, 10);
        x.guest(BISHOP, 10);
        x.guest(TINKER, 9);
        x.house(HORSEHAIR, 6);
        x.house(SILK, 6);
        return x;
    }

    private static SieveGuests one(int kind, int size, int sieve, int mesh) {
        SieveGuests x = new SieveGuests();
        x.guest(kind, size);
        x.house(sieve, mesh);
        return x;
    }

    private static void write(SieveGuests x, String text) {
        x.clear();
        for (int k = 0; k < text.length(); k++) {
            x.type(text.charAt(k));
        }
    }

    private static int reads(SieveGuests x, String text) {
        write(x, text);
        return x.read();
    }

    private static long fold(long... numbers) {
        long h = 1627L;
        for (long v : numbers) {
            h = 31L * h + v;
        }
        return h;
    }

    private static void newObject() {
        SieveGuests x = new SieveGuests();
        for (int what = 0; what <= 10; what++) {
            due("1: count(" + what + ")", x.count(what), 0);
        }
        due("1: part(0)", x.part(0), 0);
        due("1: part(1)", x.part(1), 1);
        for (int what = 0; what <= 2; what++) {
            due("1: status(" + what + ")", x.status(what), 0);
        }
        due("1: from(0)", x.from(0), NO);
        due("1: from(1)", x.from(1), NO);
        due("1: undo()", x.undo(), NO);
        due("1: constants", fold(SieveGuests.NONE, SieveGuests.BAD, SieveGuests.NO, SieveGuests.FULL),
                fold(-1, -2, -3, -4));
    }

    private static void uplands() {
        SieveGuests x = supper();
        x.seen(0, 0, 0, 5);
        x.note(0, 1, 0, 1);
        x.mark(0, 1, 0, 1, 1);
        x.calls(0, 0);
        x.evenings(3);
        x.image(1);
        x.type('a');
        x.rain(1, 5);
        due("2: uplands(5)", x.uplands(5), BAD);
        due("2: uplands(-1)", x.uplands(-1), BAD);
        due("2: guests stay there", x.count(0), 3);
        due("2: uplands(4)", x.uplands(4), 3);
        int[] counts = {0, 0, 0, 4, 0, 0, 0, 0, 0, 0, 1};
        for (int what = 0; what < counts.length; what++) {
            due("2: count(" + what + ")", x.count(what), counts[what]);
        }
        due("2: the fraction stays", x.part(0), 7);
        due("2: status stays", x.status(0), 2);
        due("2: nothing to undo", x.undo(), NO);
        due("2: images stay", x.from(1), 1);
        due("2: guests of the image", x.count(0), 3);
        due("2: uplands(0)", x.uplands(0), 3);
        due("2: wet", x.count(3), 0);
        x.guest(0, 1);
        due("2: a new guest is at home", x.of(0, 2), NONE);
        x.house(0, 1);
        due("2: a new house is not liked yet", x.about(0, 2), 0);
    }

    private static void guest() {
        SieveGuests x = new SieveGuests();
        due("3: kind -1", x.guest(-1, 5), BAD);
        due("3: kind 6", x.guest(6, 5), BAD);
        due("3: size 0", x.guest(0, 0), BAD);
        due("3: size 31", x.guest(0, 31), BAD);
        x.evenings(1);
        for (int i = 0; i < 6; i++) {
            due("3: guest " + i, x.guest(i, i * 5 + 1), i);
            due("3: kind of " + i, x.of(i, 0), i);
            due("3: size of " + i, x.of(i, 1), i * 5 + 1);
            due("3: house of " + i, x.of(i, 2), NONE);
        }
        due("3: nothing may be undone", x.count(9), 0);
        x.evenings(1);
        due("3: a seventh", x.guest(0, 30), FULL);
        due("3: BAD goes first", x.guest(0, 31), BAD);
        due("3: a refused one lets undo", x.count(9), 1);
        due("3: six are there", x.count(0), 6);
        due("3: size 30", new SieveGuests().guest(5, 30), 0);
        due("3: size 1", new SieveGuests().guest(0, 1), 0);
    }

    private static void house() {
        SieveGuests x = new SieveGuests();
        due("4: kind -1", x.house(-1, 5), BAD);
        due("4: kind 6", x.house(6, 5), BAD);
        due("4: mesh 0", x.house(0, 0), BAD);
        due("4: mesh 31", x.house(0, 31), BAD);
        x.evenings(1);
        for (int h = 0; h < 4; h++) {
            due("4: house " + h, x.house(h + 2, h * 9 + 1), h);
            due("4: kind of " + h, x.about(h, 0), h + 2);
            due("4: mesh of " + h, x.about(h, 1), h * 9 + 1);
            due("4: liking of " + h, x.about(h, 2), 0);
        }
        due("4: nothing may be undone", x.count(9), 0);
        x.evenings(1);
        due("4: a fifth", x.house(0, 30), FULL);
        due("4: BAD goes first", x.house(0, 31), BAD);
        due("4: a refused one lets undo", x.count(9), 1);
        due("4: four are there", x.count(1), 4);
        due("4: mesh 30", new SieveGuests().house(5, 30), 0);
    }

    private static void type() {
        SieveGuests x = new SieveGuests();
        due("5: -1", x.type(-1), BAD);
        due("5: 128", x.type(128), BAD);
        due("5: 0", x.type(0), 1);
        due("5: 127", x.type(127), 2);
        for (int k = 3; k <= 150; k++) {
            due("5: byte " + k, x.type(' '), k);
        }
        due("5: a 151st", x.type(' '), FULL);
        due("5: BAD goes first", x.type(128), BAD);
        due("5: 150 stay", x.count(10), 150);
    }

    private static void clear() {
        SieveGuests x = new SieveGuests();
        due("6: empty", x.clear(), 0);
        x.type('a');
        x.type('b');
        due("6: two", x.clear(), 2);
        due("6: none", x.count(10), 0);
        due("6: anew", reads(x, "uplands 1;"), 1);
        due("6: what was read stays", x.count(3), 1);
    }

    private static void read() {
        SieveGuests x = supper();
        x.seen(0, 0, 0, 5);
        x.note(0, 1, 0, 1);
        x.mark(0, 1, 0, 1, 1);
        x.evenings(1);
        x.rain(1, 5);
        x.image(0);
        due("7: all kinds of items", reads(x, "uplands 2;guest 0 10;guest 1 09;house 0 5;call 0 0;evenings 2;"
                + "call 1 0;evenings 03;home 1;home 1;call 0 0;"), 11);
        // 2 evenings of 5 parts; then 3 of 5 and 3 (9, 7, 5), and a pair.
        int[] counts = {2, 1, 5, 2, 1, 40, 0, 0, 0, 0, 106};
        for (int what = 0; what < counts.length; what++) {
            due("7: count(" + what + ")", x.count(what), counts[what]);
        }
        due("7: size by two figures", x.of(1, 1), 9);
        due("7: house of the first", x.of(0, 2), 0);
        due("7: house of the second", x.of(1, 2), NONE);
        due("7: the fraction stays", x.part(0), 7);
        due("7: images stay", x.from(0), 1);
        due("7: guests of the image", x.count(0), 3);
        due("7: again", x.read(), 11);
        due("7: blanks", reads(x, "  uplands  4  ;  guest5 30;  "), 2);
        due("7: kind", x.of(0, 0), 5);
        due("7: no blanks", reads(x, "uplands0;guest4 1;house5 1;call0 0;evenings1;home0;"), 6);
        due("7: an evening", x.count(5), 5);
        due("7: one item is enough", reads(x, "uplands 3;"), 1);
        due("7: nobody is there", x.count(0), 0);
        due("7: its wet", x.count(3), 3);
        due("7: evenings without an end", reads(x, "uplands 0;guest 0 9;house 0 1;call 0 0;"
                + "evenings99;evenings99;evenings99;evenings99;evenings99;evenings99;"
                + "evenings99;evenings99;evenings99;evenings99"), -10 - 148);
        due("7: with an end", evenings99(x), 14);
        due("7: 990 evenings", x.count(2), 990);
        due("7: their liking", x.count(5), 4950);
        x.evenings(60);
        due("7: 999 evenings", x.count(2), 999);
    }

    private static int evenings99(SieveGuests x) {
        return reads(x, "uplands0;guest0 9;house0 1;call0 0;evenings99;evenings99;evenings99;evenings99;"
                + "evenings99;evenings99;evenings99;evenings99;evenings99;evenings99;");
    }

    private static void readFaults() {
        fault("", 0);
        fault("   ", 3);
        fault(";", 0);
        fault("7", 0);
        fault("upland 0;", 0);
        fault("uplandss 0;", 0);
        fault("Uplands 0;", 0);
        fault(" guest 0 1;", 1);
        fault("uplands", 7);
        fault("uplands ;", 8);
        fault("uplands 5;", 8);
        fault("uplands 0", 9);
        fault("uplands 0  ", 11);
        fault("uplands 0 0;", 10);
        fault("uplands 000;", 8);
        fault("uplands 0000;", 8);
        fault("uplands -1;", 8);
        fault("uplands x;", 8);
        fault("uplands 0;;", 10);
        fault("uplands 0;x", 10);
        fault("uplands 0; 4", 11);
        fault("uplands 0;uplands 0;", 10);
        fault("uplands 0;uplands", 10);
        fault("uplands\t0;", 7);
        fault("uplands 0;guest", 15);
        fault("uplands 0;guest 6 1;", 16);
        fault("uplands 0;guest 0;", 17);
        fault("uplands 0;guest 0 0;", 18);
        fault("uplands 0;guest 0 31;", 18);
        fault("uplands 0;guest 0 1 1;", 20);
        fault("uplands 0;guest 01;", 18);
        fault("uplands 0;guest 011;", 16);
        fault("uplands 0;house 6 1;", 16);
        fault("uplands 0;house 0 0;", 18);
        fault("uplands 0;house 0 31;", 18);
        fault("uplands 0;house 0 1guest;", 19);
        fault("uplands 0;call 0 0;", 15);
        fault("uplands 0;guest 0 1;call 0 0;", 27);
        fault("uplands 0;guest 0 1;call 1 0;", 25);
        fault("uplands 0;guest 0 1;house 0 1;call 0 1;", 37);
        fault("uplands 0;guest 0 1;house 0 1;call 0 0", 38);
        fault("uplands 0;home 0;", 15);
        fault("uplands 0;guest 0 1;home 1;", 25);
        fault("uplands 0;guest 0 1;home 0 0;", 27);
        fault("uplands 0;evenings 0;", 19);
        fault("uplands 0;evenings 00;", 19);
        fault("uplands 0;evenings 100;", 19);
        fault("uplands 0;evenings", 18);
        fault("uplands0;guest0 1;guest0 1;guest0 1;guest0 1;guest0 1;guest0 1;guest0 1;", 63);
        fault("uplands0;house0 1;house0 1;house0 1;house0 1;house", 45);
        SieveGuests x = new SieveGuests();
        x.type(0);
        due("7: a byte 0", x.read(), -10);
        due("7: a fault is no refusal", x.status(0) + x.status(1) + x.status(2), 0);
        due("7: six guests", reads(x, "uplands0;guest0 1;guest0 1;guest0 1;guest0 1;guest0 1;guest0 1;"), 7);
        due("7: four houses", reads(x, "uplands0;house0 1;house0 1;house0 1;house0 1;"), 5);
    }

    private static void fault(String text, int at) {
        SieveGuests x = supper();
        x.calls(0, 0);
        write(x, text);
        long before = x.digest();
        due("7: the fault of '" + text + "'", x.read(), -10 - at);
        due("7: all stays at '" + text + "'", x.digest(), before);
    }

    private static void calls() {
        SieveGuests x = supper();
        due("8: guest 3", x.calls(3, 0), BAD);
        due("8: guest -1", x.calls(-1, 0), BAD);
        due("8: house 2", x.calls(0, 2), BAD);
        due("8: house -1", x.calls(0, -1), BAD);
        due("8: a bishop, horsehair", x.calls(1, 0), 7);
        due("8: it is there", x.of(1, 2), 0);
        due("8: again", x.calls(1, 0), NO);
        due("8: a bishop, silk", x.calls(1, 1), 15);
        due("8: it is there", x.of(1, 2), 1);
        due("8: a tinker, silk", x.calls(2, 1), 5);
        due("8: may be undone", x.count(9), 3);
        due("8: refused", x.status(0) * 10 + x.status(1), 41);
        SieveGuests y = one(PLAIN, 1, OLD, 1);
        due("8: nothing stays", y.calls(0, 0), 0);
        due("8: it is there, all in the kitchen", y.of(0, 2), 0);
    }

    private static void leaves() {
        SieveGuests x = supper();
        due("9: guest 3", x.leaves(3), BAD);
        due("9: guest -1", x.leaves(-1), BAD);
        due("9: at home", x.leaves(0), NO);
        x.calls(0, 1);
        due("9: leaves", x.leaves(0), 1);
        due("9: at home now", x.of(0, 2), NONE);
        due("9: again", x.leaves(0), NO);
        due("9: may be undone", x.count(9), 2);
        due("9: refused", x.status(0) * 10 + x.status(1), 22);
    }

    private static void wets() {
        SieveGuests x = one(BISHOP, 10, WETTED, 9);
        due("10: 5", x.wets(5), BAD);
        due("10: -1", x.wets(-1), BAD);
        due("10: so already", x.wets(0), NO);
        x.calls(0, 0);
        due("10: dry", x.of(0, 3), 7);
        due("10: 4", x.wets(4), 0);
        due("10: count", x.count(3), 4);
        due("10: what stays is by wet as it is", x.of(0, 3), 31);
        due("10: 2", x.wets(2), 4);
        due("10: less wet", x.of(0, 3), 15);
        due("10: may be undone", x.count(9), 3);
    }

    private static void evenings() {
        SieveGuests x = supper();
        due("11: 0", x.evenings(0), BAD);
        due("11: 61", x.evenings(61), BAD);
        due("11: -1", x.evenings(-1), BAD);
        due("11: nobody", x.evenings(60), 0);
        due("11: their number", x.count(2), 60);
        x.calls(0, 0);
        x.calls(1, 0);
        due("11: a pair", x.evenings(1), 10);
        x.calls(2, 1);
        due("11: two houses", x.evenings(2), 34);
        due("11: the first", x.about(0, 2), 30);
        due("11: the second", x.about(1, 2), 4);
        due("11: their number", x.count(2), 63);
        x.leaves(0);
        x.leaves(1);
        due("11: nobody at the first", x.evenings(1), 36);

        SieveGuests crowd = new SieveGuests();
        crowd.house(HORSEHAIR, 1);
        for (int i = 0; i < 6; i++) {
            crowd.guest(PARTY, 30);
            crowd.calls(i, 0);
        }
        due("11: thirty parts, fifteen pairs", crowd.evenings(1), 60);
        crowd.evenings(60);
        crowd.evenings(60);
        due("11: 121 evenings", crowd.evenings(45), 9960);
        due("11: 9999 at most", crowd.evenings(1), 9999);
        due("11: 9999 stays", crowd.evenings(1), 9999);

        SieveGuests kitchen = new SieveGuests();
        kitchen.house(HORSEHAIR, 20);
        kitchen.guest(PLAIN, 19);
        kitchen.guest(PLAIN, 20);
        kitchen.calls(0, 0);
        kitchen.calls(1, 0);
        due("11: no pair with the kitchen", kitchen.evenings(1), 5);
        for (int k = 0; k < 17; k++) {
            kitchen.evenings(60);
        }
        due("11: 999 at most", kitchen.count(2), 999);
        due("11: liking of 999", kitchen.count(5), 4995);
        due("11: none goes by", kitchen.evenings(1), 4995);
        due("11: may be undone also so", kitchen.undo(), 999);
        due("11: to the one before", kitchen.undo(), 961);
    }

    private static void undo() {
        SieveGuests x = supper();
        due("12: none", x.undo(), NO);
        x.calls(0, 0);
        x.evenings(7);
        x.wets(3);
        x.calls(0, 1);
        x.leaves(0);
        due("12: may be undone", x.count(9), 5);
        due("12: going home", x.undo(), 7);
        due("12: it is back", x.of(0, 2), 1);
        due("12: calling", x.undo(), 7);
        due("12: where it was", x.of(0, 2), 0);
        due("12: wet", x.undo(), 7);
        due("12: dry", x.count(3), 0);
        due("12: evenings", x.undo(), 0);
        due("12: liking", x.count(5), 0);
        due("12: the first call", x.undo(), 0);
        due("12: at home", x.of(0, 2), NONE);
        due("12: no more", x.undo(), NO);
        for (int k = 1; k <= 9; k++) {
            x.evenings(1);
            due("12: eight at most", x.count(9), Math.min(k, 8));
        }
        for (int k = 8; k >= 1; k--) {
            due("12: back to " + k, x.undo(), k);
        }
        due("12: the first of nine is forgotten", x.undo(), NO);
        x.wets(1);
        x.wets(1);
        x.calls(9, 9);
        due("12: refused ones are none", x.count(9), 1);
        x.seen(0, 0, 0, 5);
        x.undo();
        due("12: what was seen stays", x.count(6), 1);
        x.wets(1);
        x.house(0, 1);
        due("12: behind a house", x.undo(), NO);
        x.wets(2);
        x.guest(0, 1);
        due("12: behind a guest", x.undo(), NO);
    }

    private static void of() {
        SieveGuests x = supper();
        x.calls(1, 1);
        due("13: kind", x.of(1, 0), BISHOP);
        due("13: size", x.of(1, 1), 10);
        due("13: house", x.of(1, 2), 1);
        due("13: stays", x.of(1, 3), 15);
        due("13: at home", x.of(0, 2), NONE);
        due("13: nothing stays at home", x.of(0, 3), 0);
        due("13: what 4", x.of(1, 4), BAD);
        due("13: what -1", x.of(1, -1), BAD);
        due("13: guest 3", x.of(3, 0), BAD);
        due("13: guest -1", x.of(-1, 0), BAD);
    }

    private static void about() {
        SieveGuests x = supper();
        x.calls(0, 1);
        x.calls(1, 1);
        x.calls(2, 1);
        x.evenings(1);
        due("14: kind", x.about(1, 0), SILK);
        due("14: mesh", x.about(1, 1), 6);
        due("14: liking", x.about(1, 2), 17);
        due("14: company", x.about(1, 3), 11);
        due("14: pairs", x.about(1, 4), 3);
        due("14: nobody's company", x.about(0, 3), 0);
        due("14: nobody's pairs", x.about(0, 4), 0);
        due("14: what 5", x.about(0, 5), BAD);
        due("14: what -1", x.about(0, -1), BAD);
        due("14: house 2", x.about(2, 0), BAD);
        due("14: house -1", x.about(-1, 0), BAD);
    }

    private static void great() {
        greatnesses(PLAIN, 7, 7, 7, 7, 7, 7);
        greatnesses(BISHOP, 7, 7, 5, 3, 1, 1);
        greatnesses(BISHOP, 8, 8, 6, 4, 2, 1);
        greatnesses(CHILD, 7, 4, 4, 4, 4, 4);
        greatnesses(CHILD, 8, 4, 4, 4, 4, 4);
        greatnesses(TINKER, 9, 9, 0, 5, 0, 1);
        greatnesses(TINKER, 1, 1, 0, 1, 0, 1);
        greatnesses(PARTY, 30, 30, 31, 32, 33, 34);
        greatnesses(COUGH, 29, 15, 15, 1, 1, 1);
        greatnesses(COUGH, 1, 1, 1, 1, 1, 1);
        SieveGuests x = supper();
        due("15: part 5", x.great(0, 5), BAD);
        due("15: part -1", x.great(0, -1), BAD);
        due("15: guest 3", x.great(3, 0), BAD);
        due("15: guest -1", x.great(-1, 0), BAD);
    }

    private static void greatnesses(int kind, int size, int... parts) {
        SieveGuests x = new SieveGuests();
        x.guest(kind, size);
        for (int p = 0; p < 5; p++) {
            due("15: part " + p + " of kind " + kind + ", size " + size, x.great(0, p), parts[p]);
        }
    }

    private static void stays() {
        least(HORSEHAIR, 5, 4, 5);
        least(SILK, 5, 4, 2);
        least(SILK, 4, 4, 1);
        least(SILK, 1, 0, 1);
        least(COARSE, 5, 4, 9);
        least(WETTED, 9, 0, 6);
        least(WETTED, 9, 4, 2);
        least(WETTED, 6, 4, 1);
        least(WETTED, 1, 4, 1);
        least(OLD, 5, 4, 18);
        least(OLD, 11, 0, 30);
        least(FINE, 10, 0, 4);
        least(FINE, 9, 0, 3);
        least(FINE, 10, 4, 2);
        least(FINE, 1, 4, 1);
        SieveGuests x = supper();
        due("16: a bishop, horsehair", x.stays(1, 0), 7);
        due("16: a bishop, silk", x.stays(1, 1), 15);
        due("16: a tinker, silk", x.stays(2, 1), 5);
        x.calls(1, 0);
        due("16: wherever it is", x.stays(1, 1), 15);
        due("16: guest 3", x.stays(3, 0), BAD);
        due("16: guest -1", x.stays(-1, 0), BAD);
        due("16: house 2", x.stays(0, 2), BAD);
        due("16: house -1", x.stays(0, -1), BAD);
    }

    /** Plain guests stay on a sieve from this size on, and no smaller one does. */
    private static void least(int sieve, int mesh, int wet, int size) {
        String what = "16: sieve " + sieve + ", mesh " + mesh + ", wet " + wet;
        SieveGuests x = one(PLAIN, size, sieve, mesh);
        x.wets(wet);
        due(what, x.stays(0, 0), 31);
        if (size > 1) {
            x.guest(PLAIN, size - 1);
            due(what + ", a smaller one", x.stays(1, 0), 0);
        }
    }

    private static void then() {
        SieveGuests x = supper();
        x.calls(0, 0);
        x.calls(1, 0);
        x.evenings(1);
        due("17: now", x.then(0, 0), 10);
        due("17: one", x.then(0, 1), 20);
        due("17: sixty", x.then(0, 60), 610);
        due("17: nobody there", x.then(1, 60), 0);
        due("17: 61", x.then(0, 61), BAD);
        due("17: -1", x.then(0, -1), BAD);
        due("17: house 2", x.then(2, 0), BAD);
        due("17: house -1", x.then(-1, 0), BAD);
        for (int k = 0; k < 17; k++) {
            x.evenings(60);
        }
        due("17: 9999 at most", x.then(0, 60), 9999);
        SieveGuests y = one(PLAIN, 9, HORSEHAIR, 1);
        y.calls(0, 0);
        for (int k = 0; k < 17; k++) {
            y.evenings(60);
        }
        due("17: beyond the last evening", y.then(0, 60), 4995 + 300);
    }

    private static void when() {
        SieveGuests x = supper();
        x.calls(0, 0);
        x.calls(1, 0);
        due("18: 1", x.when(0, 1), 1);
        due("18: 10", x.when(0, 10), 1);
        due("18: 11", x.when(0, 11), 2);
        due("18: 600", x.when(0, 600), 60);
        due("18: 601", x.when(0, 601), NONE);
        due("18: nobody there", x.when(1, 1), NONE);
        x.evenings(2);
        due("18: so already", x.when(0, 20), 0);
        due("18: 999", x.when(0, 999), NONE);
        x.evenings(60);
        due("18: 999 now", x.when(0, 999), 38);
        due("18: 0", x.when(0, 0), BAD);
        due("18: 1000", x.when(0, 1000), BAD);
        due("18: house 2", x.when(2, 1), BAD);
        due("18: house -1", x.when(-1, 1), BAD);
        SieveGuests y = one(TINKER, 1, HORSEHAIR, 1);
        for (int k = 0; k < 17; k++) {
            y.evenings(60);
        }
        y.calls(0, 0);
        due("18: beyond the last evening", y.when(0, 180), 60);
    }

    private static void most() {
        SieveGuests x = supper();
        due("19: a bishop's house", x.most(1, 0), 1);
        due("19: a bishop's parts", x.most(1, 1), 4);
        due("19: of like ones the first", x.most(0, 0), 0);
        due("19: all", x.most(0, 1), 5);
        due("19: what 2", x.most(0, 2), BAD);
        due("19: what -1", x.most(0, -1), BAD);
        due("19: guest 3", x.most(3, 0), BAD);
        due("19: guest -1", x.most(-1, 0), BAD);
        SieveGuests y = new SieveGuests();
        y.guest(PLAIN, 1);
        due("19: no house", y.most(0, 0), NONE);
        due("19: none of it", y.most(0, 1), 0);
        y.house(OLD, 1);
        due("19: nothing stays", y.most(0, 0), 0);
        due("19: none of it", y.most(0, 1), 0);
    }

    private static void round() {
        SieveGuests x = new SieveGuests();
        x.guest(BISHOP, 10);
        x.guest(TINKER, 30);
        x.guest(PLAIN, 2);
        due("20: no house", x.round(0), NONE);
        x.house(HORSEHAIR, 3);
        due("20: the last part is too small", x.round(0), NONE);
        x.house(HORSEHAIR, 2);
        due("20: the second", x.round(0), 2);
        x.house(SILK, 5);
        x.house(HORSEHAIR, 1);
        due("20: of like ones the least", x.round(0), 2);
        due("20: a tinker is all holes", x.round(1), NONE);
        due("20: a plain one", x.round(2), 2);
        due("20: guest 3", x.round(3), BAD);
        due("20: guest -1", x.round(-1), BAD);
    }

    private static void mesh() {
        SieveGuests x = supper();
        due("21: all of a bishop", x.mesh(1, 0, 5), 2);
        due("21: four", x.mesh(1, 0, 4), 4);
        due("21: one", x.mesh(1, 0, 1), 10);
        due("21: none at least", x.mesh(1, 0, 0), 30);
        due("21: silk", x.mesh(1, 1, 4), 7);
        due("21: three of a tinker", x.mesh(2, 0, 3), 1);
        due("21: four of a tinker", x.mesh(2, 0, 4), NONE);
        due("21: -1", x.mesh(0, 0, -1), BAD);
        due("21: 6", x.mesh(0, 0, 6), BAD);
        due("21: guest 3", x.mesh(3, 0, 0), BAD);
        due("21: guest -1", x.mesh(-1, 0, 0), BAD);
        due("21: house 2", x.mesh(0, 2, 0), BAD);
        due("21: house -1", x.mesh(0, -1, 0), BAD);
        SieveGuests y = one(PLAIN, 20, WETTED, 1);
        due("21: dry", y.mesh(0, 0, 5), 23);
        y.wets(4);
        due("21: wet", y.mesh(0, 0, 5), 27);
    }

    private static void place() {
        SieveGuests x = supper();
        due("22: how much", x.place(NONE), 17);
        for (int i = 0; i < 3; i++) {
            due("22: all at the silk one", x.place(i), 1);
        }
        due("22: guest 3", x.place(3), -10);
        due("22: guest -2", x.place(-2), -10);
        due("22: refused as BAD", x.status(0), 2);
        SieveGuests y = new SieveGuests();
        due("22: nobody", y.place(NONE), 0);
        due("22: nobody there", y.place(0), -10);
        y.guest(PLAIN, 9);
        due("22: no house", y.place(0), NONE);
        due("22: no house, how much", y.place(NONE), 0);
        y.house(OLD, 30);
        due("22: home first", y.place(0), NONE);
        y.house(HORSEHAIR, 9);
        y.house(HORSEHAIR, 9);
        due("22: of like ones the first", y.place(0), 1);
        y.guest(PLAIN, 8);
        y.guest(PLAIN, 10);
        due("22: a pair", y.place(NONE), 12);
        due("22: one in the kitchen stays at home", y.place(1), NONE);
        due("22: with the first", y.place(2), 1);
        together();
        SieveGuests z = one(PARTY, 30, HORSEHAIR, 1);
        z.calls(0, 0);
        for (int k = 0; k < 17; k++) {
            z.evenings(60);
        }
        for (int i = 1; i < 6; i++) {
            z.guest(PARTY, 30);
            z.calls(i, 0);
        }
        due("22: the crowd", z.place(NONE), 60);
        z.uplands(0);
        due("22: nobody again", z.place(NONE), 0);
    }

    /** One that would as well sit at the first house alone goes where the other one sits. */
    private static void together() {
        SieveGuests x = new SieveGuests();
        x.guest(PLAIN, 9);
        x.house(HORSEHAIR, 9);
        x.house(HORSEHAIR, 5);
        due("22: alone", x.place(0), 0);
        x.guest(PLAIN, 5);
        due("22: a pair, worth 12", x.place(NONE), 12);
        due("22: the first", x.place(0), 1);
        due("22: the second", x.place(1), 1);
    }

    private static void seen() {
        SieveGuests x = supper();
        due("23: guest 3", x.seen(3, 0, 0, 0), BAD);
        due("23: guest -1", x.seen(-1, 0, 0, 0), BAD);
        due("23: house 2", x.seen(0, 2, 0, 0), BAD);
        due("23: house -1", x.seen(0, -1, 0, 0), BAD);
        due("23: wet 5", x.seen(0, 0, 5, 0), BAD);
        due("23: wet -1", x.seen(0, 0, -1, 0), BAD);
        due("23: 6 parts", x.seen(0, 0, 0, 6), BAD);
        due("23: -1 parts", x.seen(0, 0, 0, -1), BAD);
        for (int k = 1; k <= 5; k++) {
            due("23: the " + k + "th", x.seen(2, 1, 4, k), k);
        }
        due("23: a sixth", x.seen(0, 0, 0, 0), FULL);
        due("23: BAD goes first", x.seen(3, 0, 0, 0), BAD);
        due("23: five", x.count(6), 5);
    }

    private static void sizes() {
        SieveGuests x = supper();
        due("24: any", x.sizes(1, 0), 30);
        due("24: the least", x.sizes(1, 1), 1);
        due("24: the greatest", x.sizes(1, 2), 30);
        x.seen(1, 0, 0, 3);
        // A bishop has three parts from 6 on if it is 10 or 11 great.
        due("24: three stayed", x.sizes(1, 0), 2);
        due("24: the least", x.sizes(1, 1), 10);
        due("24: the greatest", x.sizes(1, 2), 11);
        due("24: another's", x.sizes(0, 0), 30);
        x.seen(1, 1, 0, 5);
        due("24: both", x.sizes(1, 0), 1);
        due("24: it is 11 great", x.sizes(1, 1), 11);
        x.seen(1, 0, 0, 2);
        due("24: none", x.sizes(1, 0), 0);
        due("24: no least", x.sizes(1, 1), NONE);
        due("24: no greatest", x.sizes(1, 2), NONE);
        due("24: what 3", x.sizes(0, 3), BAD);
        due("24: what -1", x.sizes(0, -1), BAD);
        due("24: guest 3", x.sizes(3, 0), BAD);
        due("24: guest -1", x.sizes(-1, 0), BAD);
        SieveGuests y = one(PLAIN, 1, WETTED, 30);
        y.seen(0, 0, 4, 5);
        due("24: by the wet that was", y.sizes(0, 1), 23);
        y.wets(2);
        due("24: whatever it is now", y.sizes(0, 1), 23);
        y.seen(0, 0, 0, 0);
        due("24: up to 26", y.sizes(0, 2), 26);
    }

    private static void tell() {
        SieveGuests x = new SieveGuests();
        x.guest(PLAIN, 5);
        due("25: no house", x.tell(0), NONE);
        x.house(HORSEHAIR, 6);
        due("25: one", x.tell(0), 0);
        x.house(HORSEHAIR, 15);
        due("25: 16 and 14", x.tell(0), 1);
        x.house(HORSEHAIR, 16);
        due("25: 15 and 15", x.tell(0), 2);
        x.house(SILK, 19);
        due("25: of like ones the first", x.tell(0), 2);
        x.seen(0, 2, 0, 0);
        due("25: of 1 .. 15 it is the first", x.tell(0), 0);
        x.seen(0, 0, 0, 5);
        due("25: of 6 .. 15", x.tell(0), 1);
        x.seen(0, 0, 0, 0);
        due("25: no size", x.tell(0), NONE);
        due("25: guest 1", x.tell(1), BAD);
        due("25: guest -1", x.tell(-1), BAD);
        SieveGuests y = new SieveGuests();
        y.guest(PLAIN, 5);
        y.house(HORSEHAIR, 17);
        y.house(WETTED, 22);
        due("25: dry: 16 and 18", y.tell(0), 0);
        y.wets(3);
        due("25: wet: 16 and 15", y.tell(0), 1);
        y.wets(4);
        due("25: wetter: 16 and 16", y.tell(0), 0);
    }

    private static void note() {
        SieveGuests x = supper();
        due("26: guest 3", x.note(3, 1, 0, 0), BAD);
        due("26: guest -1", x.note(-1, 1, 0, 0), BAD);
        due("26: size 0", x.note(0, 0, 0, 0), BAD);
        due("26: size 31", x.note(0, 31, 0, 0), BAD);
        due("26: part -1", x.note(0, 1, -1, 0), BAD);
        due("26: part 5", x.note(0, 1, 5, 0), BAD);
        due("26: -1 great", x.note(0, 1, 0, -1), BAD);
        due("26: 61 great", x.note(0, 1, 0, 61), BAD);
        for (int k = 1; k <= 6; k++) {
            due("26: the " + k + "th", x.note(2, 30, 4, 60), k);
        }
        due("26: a seventh", x.note(0, 1, 0, 0), FULL);
        due("26: BAD goes first", x.note(0, 1, 0, 61), BAD);
        due("26: six", x.count(7), 6);
    }

    private static void mark() {
        SieveGuests x = supper();
        due("27: house 2", x.mark(2, 1, 0, 0, 0), BAD);
        due("27: house -1", x.mark(-1, 1, 0, 0, 0), BAD);
        due("27: mesh 0", x.mark(0, 0, 0, 0, 0), BAD);
        due("27: mesh 31", x.mark(0, 31, 0, 0, 0), BAD);
        due("27: wet -1", x.mark(0, 1, -1, 0, 0), BAD);
        due("27: wet 5", x.mark(0, 1, 5, 0, 0), BAD);
        due("27: -1 great", x.mark(0, 1, 0, -1, 0), BAD);
        due("27: 61 great", x.mark(0, 1, 0, 61, 0), BAD);
        due("27: stayed -1", x.mark(0, 1, 0, 0, -1), BAD);
        due("27: stayed 2", x.mark(0, 1, 0, 0, 2), BAD);
        for (int k = 1; k <= 6; k++) {
            due("27: the " + k + "th", x.mark(1, 30, 4, 60, k % 2), k);
        }
        due("27: a seventh", x.mark(0, 1, 0, 0, 0), FULL);
        due("27: BAD goes first", x.mark(0, 1, 0, 0, 2), BAD);
        due("27: six", x.count(8), 6);
    }

    private static void forget() {
        SieveGuests x = supper();
        x.seen(0, 0, 0, 5);
        x.note(0, 1, 0, 1);
        x.note(0, 2, 0, 2);
        x.mark(0, 1, 0, 1, 1);
        x.mark(0, 1, 0, 1, 1);
        x.mark(0, 1, 0, 1, 1);
        due("28: 3", x.forget(3), BAD);
        due("28: -1", x.forget(-1), BAD);
        due("28: seen ones", x.forget(0), 1);
        due("28: no seen ones, but the others", x.count(6) * 100 + x.count(7) * 10 + x.count(8), 23);
        due("28: notes", x.forget(1), 2);
        due("28: no notes, but marks", x.count(7) * 10 + x.count(8), 3);
        due("28: marks", x.forget(2), 3);
        due("28: no marks", x.count(8), 0);
        due("28: none", x.forget(0) + x.forget(1) + x.forget(2), 0);
        due("28: one comes anew", x.seen(0, 0, 0, 5), 1);
    }

    private static void is() {
        SieveGuests x = supper();
        due("29: no notes", x.is(0), 63);
        x.note(0, 9, 1, 7);
        due("29: a bishop", x.is(0), 2);
        due("29: another's", x.is(1), 63);
        x.note(1, 9, 1, 5);
        due("29: a child, a cough", x.is(1), 36);
        x.note(1, 9, 2, 5);
        due("29: a child", x.is(1), 4);
        x.note(2, 9, 3, 0);
        due("29: a tinker", x.is(2), 8);
        x.note(2, 9, 0, 8);
        due("29: none", x.is(2), 0);
        due("29: guest 3", x.is(3), BAD);
        due("29: guest -1", x.is(-1), BAD);
    }

    private static void look() {
        SieveGuests x = supper();
        // At part 0 all but child and cough are 10; at 1: 10, 8, 5, 0, 11, 5; at 2 two are 6; at 3 none are alike.
        due("30: of all", x.look(0), 3);
        x.note(0, 1, 0, 1);
        x.note(0, 3, 0, 3);
        due("30: plain, bishop, tinker, party", x.is(0), 27);
        due("30: 10, 8, 0, 11", x.look(0), 1);
        x.note(0, 3, 1, 1);
        due("30: one kind: the first part", x.look(0), 0);
        x.note(0, 3, 1, 2);
        due("30: no kind", x.look(0), NONE);
        due("30: guest 3", x.look(3), BAD);
        due("30: guest -1", x.look(-1), BAD);
        SieveGuests y = new SieveGuests();
        y.guest(PLAIN, 1);
        // Of size 1: 1 1 1 1 1 1; 1 1 1 0 2 1; 1 1 1 1 3 1; 1 1 1 0 4 1.
        due("30: of one great", y.look(0), 1);
    }

    private static void kinds() {
        SieveGuests x = supper();
        due("31: no marks", x.kinds(0), 63);
        x.mark(0, 10, 0, 8, 0);
        // From 10, 7, 14, 7, 28, 4 on they stay.
        due("31: horsehair, coarse, old", x.kinds(0), 21);
        due("31: another's", x.kinds(1), 63);
        x.mark(0, 10, 0, 14, 1);
        due("31: not the old one", x.kinds(0), 5);
        x.mark(0, 10, 0, 13, 1);
        due("31: horsehair", x.kinds(0), 1);
        x.mark(0, 10, 0, 9, 1);
        due("31: none", x.kinds(0), 0);
        x.mark(1, 10, 4, 3, 1);
        due("31: by the wet that was", x.kinds(1), 40);
        due("31: house 2", x.kinds(2), BAD);
        due("31: house -1", x.kinds(-1), BAD);
    }

    private static void ask() {
        SieveGuests x = one(PLAIN, 1, HORSEHAIR, 10);
        // From 10, 7, 14, 7, 28, 4 on they stay: at 7 three of six.
        due("32: of all", x.ask(0), 7);
        x.mark(0, 10, 0, 7, 1);
        due("32: silk, wetted, fine", x.kinds(0), 42);
        due("32: one and two", x.ask(0), 4);
        x.mark(0, 10, 0, 5, 0);
        due("32: silk, wetted", x.kinds(0), 10);
        due("32: wet tells them apart", x.ask(0), 106);
        x.mark(0, 10, 4, 5, 1);
        due("32: one kind: the first", x.ask(0), 0);
        x.mark(0, 10, 4, 60, 0);
        due("32: no kind", x.ask(0), NONE);
        due("32: house 1", x.ask(1), BAD);
        due("32: house -1", x.ask(-1), BAD);
    }

    private static void rivals() {
        SieveGuests x = supper();
        x.uplands(0);
        x.guest(PLAIN, 5);
        x.house(HORSEHAIR, 30);
        x.house(COARSE, 30);
        // All or nothing: the first has all up to mesh 5, the second by mesh 1 alone.
        due("33: how many", x.rivals(0, 1, 0, NONE), 5);
        for (int k = 0; k < 5; k++) {
            due("33: the " + k + "th", x.rivals(0, 1, 0, k), 11 + 10 * k);
        }
        due("33: not so many", x.rivals(0, 1, 0, 5), -5);
        due("33: the other way round", x.rivals(1, 0, 0, 4), 15);
        due("33: not so many is no refusal", x.status(0) + x.status(1) + x.status(2), 0);
        due("33: alike", x.rivals(0, 0, 0, NONE), -10);
        due("33: a 2", x.rivals(2, 1, 0, NONE), -10);
        due("33: a -1", x.rivals(-1, 1, 0, NONE), -10);
        due("33: b 2", x.rivals(0, 2, 0, NONE), -10);
        due("33: b -1", x.rivals(0, -1, 0, NONE), -10);
        due("33: guest 1", x.rivals(0, 1, 1, NONE), -10);
        due("33: guest -1", x.rivals(0, 1, -1, NONE), -10);
        due("33: k -2", x.rivals(0, 1, 0, -2), -10);
        due("33: refused as BAD", x.status(0), 8);
        SieveGuests y = new SieveGuests();
        y.guest(PLAIN, 1);
        y.house(OLD, 1);
        y.house(OLD, 2);
        due("33: nothing stays, all rest", y.rivals(0, 1, 0, NONE), 81);
        due("33: the last", y.rivals(0, 1, 0, 80), 99);
        SieveGuests z = new SieveGuests();
        z.guest(BISHOP, 9);
        z.house(HORSEHAIR, 1);
        z.house(HORSEHAIR, 1);
        due("33: all of a bishop by mesh 1 alone", z.rivals(0, 1, 0, NONE), 1);
        due("33: the finest", z.rivals(0, 1, 0, 0), 11);
    }

    private static void rain() {
        SieveGuests x = one(BISHOP, 10, WETTED, 9);
        due("34: 3 of 10", x.rain(0, 3), 1);
        fraction("34: three dry, five wet", x, 18, 5);
        x.house(HORSEHAIR, 6);
        due("34: two houses", x.rain(0, 3), 1);
        fraction("34: three more", x, 33, 5);
        due("34: 0 of 10", x.rain(0, 0), 1);
        fraction("34: dry", x, 6, 1);
        due("34: 10 of 10", x.rain(0, 10), 1);
        fraction("34: wet", x, 8, 1);
        x.wets(4);
        due("34: 5 of 10", x.rain(0, 5), 1);
        fraction("34: whatever wet is now", x, 7, 1);
        due("34: 1 of 10", x.rain(0, 1), 1);
        fraction("34: fifths", x, 31, 5);
        due("34: 11", x.rain(0, 11), BAD);
        due("34: -1", x.rain(0, -1), BAD);
        due("34: guest 1", x.rain(1, 0), BAD);
        due("34: guest -1", x.rain(-1, 0), BAD);
        fraction("34: refused ones leave it", x, 31, 5);
        SieveGuests y = new SieveGuests();
        y.guest(BISHOP, 12);
        due("34: no house", y.rain(0, 5), 1);
        fraction("34: nothing", y, 0, 1);
        y.house(WETTED, 9);
        // 12, 10, 8, 6, 4: four from 6 on, five from 2 on.
        y.rain(0, 5);
        fraction("34: halves", y, 9, 2);
        y.rain(0, 7);
        fraction("34: tenths", y, 47, 10);
    }

    private static void fraction(String what, SieveGuests x, long above, long below) {
        due(what + ", above", x.part(0), above);
        due(what + ", below", x.part(1), below);
    }

    private static void years() {
        SieveGuests x = one(PLAIN, 5, HORSEHAIR, 1);
        due("35: none", x.years(0, 0), 0);
        // Seed 0: 12345 (guest 0, house 0), 1406932606 (guest 0, house 1), 654583775 (guest 4, house 0).
        due("35: one", x.years(0, 1), 5);
        due("35: not there: it goes home", x.years(0, 2), 5);
        x.house(HORSEHAIR, 5);
        due("35: two houses", x.years(0, 2), 10);
        due("35: nobody goes", x.years(0, 3), 15);
        // Seed 1: 1103527590 (guest 2, house 0).
        due("35: another one goes", x.years(1, 1), 0);
        x.guest(PLAIN, 3);
        x.guest(PLAIN, 4);
        due("35: that is there", x.years(1, 1), 5);
        x.calls(2, 0);
        x.calls(1, 0);
        x.evenings(1);
        due("35: from what there is", x.years(1, 1), 24);
        due("35: nobody went", x.of(0, 2), NONE);
        due("35: the same evening", x.count(2), 1);
        due("35: seed 1000000", x.years(1000000, 1), BAD);
        due("35: seed -1", x.years(-1, 1), BAD);
        due("35: n 61", x.years(0, 61), BAD);
        due("35: n -1", x.years(0, -1), BAD);
        due("35: seed 999999", x.years(999999, 0), 12);
        SieveGuests y = one(PLAIN, 30, HORSEHAIR, 1);
        y.house(HORSEHAIR, 1);
        y.house(HORSEHAIR, 1);
        y.house(HORSEHAIR, 1);
        y.calls(0, 0);
        for (int k = 0; k < 17; k++) {
            y.evenings(60);
        }
        due("35: beyond the last evening", y.years(7, 60), 4995 + 300);
    }

    private static void part() {
        SieveGuests x = one(BISHOP, 10, WETTED, 9);
        fraction("36: at first", x, 0, 1);
        x.rain(0, 3);
        fraction("36: then", x, 18, 5);
        due("36: 2", x.part(2), BAD);
        due("36: -1", x.part(-1), BAD);
        due("36: refused", x.status(0), 2);
    }

    private static void image() {
        SieveGuests x = supper();
        due("37: 2", x.image(2), BAD);
        due("37: -1", x.image(-1), BAD);
        due("37: 0", x.image(0), 1);
        x.calls(0, 0);
        due("37: 1", x.image(1), 1);
        x.leaves(0);
        x.from(1);
        due("37: the second", x.of(0, 2), 0);
        x.from(0);
        due("37: the first", x.of(0, 2), NONE);
        x.wets(2);
        due("37: 0 again", x.image(0), 1);
        x.wets(3);
        x.from(0);
        due("37: anew", x.count(3), 2);
    }

    private static void from() {
        SieveGuests x = supper();
        due("38: 2", x.from(2), BAD);
        due("38: -1", x.from(-1), BAD);
        due("38: none was kept", x.from(0), NO);
        x.seen(1, 0, 1, 3);
        x.note(1, 2, 3, 4);
        x.mark(1, 2, 3, 4, 1);
        x.wets(2);
        x.calls(1, 0);
        x.evenings(5);
        x.type('a');
        x.image(1);
        long kept = x.digest();
        due("38: the other was not kept", x.from(0), NO);
        x.leaves(1);
        x.undo();
        x.undo();
        x.evenings(2);
        x.forget(0);
        x.forget(1);
        x.forget(2);
        x.uplands(0);
        due("38: kept", x.from(1), 1);
        due("38: all is as it was", x.digest(), kept);
        due("38: what may be undone", x.count(9), 3);
        due("38: undone", x.undo(), 0);
        due("38: undone", x.undo(), 0);
        due("38: at home", x.of(1, 2), NONE);
        x.from(1);
        x.from(1);
        due("38: going on is not undone", x.count(9), 3);
        x.type('b');
        x.rain(1, 3);
        x.from(1);
        due("38: the text stays", x.count(10), 2);
        due("38: the fraction stays", x.part(0), 7);
        due("38: status stays", x.status(1), 2);
        x.house(0, 1);
        x.from(1);
        due("38: a house goes", x.count(1), 2);
    }

    private static void status() {
        SieveGuests x = new SieveGuests();
        due("39: 3", x.status(3), -1);
        due("39: -1", x.status(-1), -1);
        due("39: counts as BAD", x.status(0), 2);
        x.undo();
        x.wets(0);
        x.wets(0);
        due("39: NO", x.status(1), 3);
        for (int k = 0; k < 10; k++) {
            x.house(0, 1);
        }
        due("39: FULL", x.status(2), 6);
        x.count(11);
        x.place(0);
        x.rivals(0, 1, 0, NONE);
        due("39: BAD of each kind", x.status(0), 5);
        x.uplands(0);
        due("39: it stays", x.status(0) * 100 + x.status(1) * 10 + x.status(2), 536);
    }

    private static void count() {
        SieveGuests x = supper();
        x.wets(3);
        x.calls(0, 0);
        x.calls(1, 0);
        x.evenings(4);
        x.seen(0, 0, 0, 5);
        x.note(0, 1, 0, 1);
        x.note(0, 2, 0, 2);
        x.mark(0, 1, 0, 1, 1);
        x.mark(0, 1, 0, 1, 1);
        x.mark(0, 1, 0, 1, 1);
        write(x, "abcdefg");
        int[] counts = {3, 2, 4, 3, 2, 40, 1, 2, 3, 4, 7};
        for (int what = 0; what < counts.length; what++) {
            due("40: count(" + what + ")", x.count(what), counts[what]);
        }
        due("40: 11", x.count(11), BAD);
        due("40: -1", x.count(-1), BAD);
    }

    private static void digest() {
        SieveGuests x = new SieveGuests();
        due("41: a new object", x.digest(), fold(0, 0, 0, 0, 0, 0, 0, 0, 0, 0, 0, 0, 1));
        x = supper();
        x.wets(3);
        x.calls(1, 1);
        x.evenings(4);
        x.seen(1, 0, 2, 5);
        x.note(2, 30, 4, 60);
        x.note(1, 2, 3, 4);
        x.mark(1, 2, 3, 4, 1);
        x.rain(1, 5);
        x.type('a');
        due("41: of all", x.digest(), fold(3, 2, 4, 3, 1, 16, 1, 2, 1, 3, 1,
                0, 10, -1, 1, 10, 1, 3, 9, -1, 0, 6, 0, 1, 6, 16,
                1, 0, 2, 5, 2, 30, 4, 60, 1, 2, 3, 4, 1, 2, 3, 4, 1, 7, 1));
    }

    private static void questionsChangeNothing() {
        SieveGuests x = supper();
        x.calls(1, 0);
        x.evenings(60);
        x.image(0);
        long before = x.digest();
        x.of(0, 0);
        x.about(0, 3);
        x.great(0, 0);
        x.stays(0, 0);
        x.then(0, 60);
        x.when(0, 999);
        x.most(0, 0);
        x.round(0);
        x.mesh(0, 0, 3);
        x.place(NONE);
        x.place(0);
        x.sizes(0, 0);
        x.tell(0);
        x.is(0);
        x.look(0);
        x.kinds(0);
        x.ask(0);
        x.rivals(0, 1, 0, 0);
        x.years(5, 60);
        x.part(0);
        x.status(0);
        x.count(0);
        x.image(1);
        due("questions change nothing", x.digest(), before);
        due("nor is one a refusal", x.status(0) + x.status(1) + x.status(2), 0);
    }

    private static void refusalsChangeNothing() {
        SieveGuests x = supper();
        x.calls(1, 0);
        x.evenings(60);
        long before = x.digest();
        int[] edges = {Integer.MIN_VALUE, -2, 1000000, Integer.MAX_VALUE};
        for (int e : edges) {
            x.uplands(e);
            x.guest(e, e);
            x.house(e, e);
            x.type(e);
            x.calls(e, e);
            x.leaves(e);
            x.wets(e);
            x.evenings(e);
            x.of(e, e);
            x.about(e, e);
            x.great(e, e);
            x.stays(e, e);
            x.then(e, e);
            x.when(e, e);
            x.most(e, e);
            x.round(e);
            x.mesh(e, e, e);
            x.place(e);
            x.seen(e, e, e, e);
            x.sizes(e, e);
            x.tell(e);
            x.note(e, e, e, e);
            x.mark(e, e, e, e, e);
            x.forget(e);
            x.is(e);
            x.look(e);
            x.kinds(e);
            x.ask(e);
            x.rivals(e, e, e, e);
            x.rain(e, e);
            x.years(e, e);
            x.part(e);
            x.image(e);
            x.from(e);
            x.status(e);
            x.count(e);
        }
        due("refusals change nothing", x.digest(), before);
        due("each is counted", x.status(0), 36 * edges.length);
    }
}
