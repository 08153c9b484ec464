/** States that tests begin with: each is made by the same calls whenever it is asked for, so two of them are twins. */
final class Scenes {
    static final int PLAIN = 0, BISHOP = 1, CHILD = 2, TINKER = 3, PARTY = 4, COUGH = 5;
    static final int HORSEHAIR = 0, SILK = 1, COARSE = 2, WETTED = 3, OLD = 4, FINE = 5;
    static final int MOST_GUESTS = 6, MOST_HOUSES = 4;

    private Scenes() {
    }

    static SieveGuests nobody() {
        return new SieveGuests();
    }

    /** A guest, at home, and a house. */
    static SieveGuests one(int kind, int size, int sieve, int mesh) {
        SieveGuests x = new SieveGuests();
        x.guest(kind, size);
        x.house(sieve, mesh);
        return x;
    }

    /** So many guests of each kind, at home, and houses; wet 2, both images kept, a text that can be read. */
    static SieveGuests gathering(int guests, int houses) {
        SieveGuests x = new SieveGuests();
        for (int i = 0; i < guests; i++) {
            x.guest((i + BISHOP) % 6, 10 + i);
        }
        for (int h = 0; h < houses; h++) {
            x.house(h, 6 + h);
        }
        if (guests > 0 && houses > 0) {
            x.seen(0, 0, 1, 3);
            x.note(0, 9, 1, 7);
            x.mark(0, 8, 1, 8, 1);
            x.rain(0, 3);
        }
        write(x, "uplands 1;guest 2 9;");
        x.image(0);
        x.wets(2);
        x.image(1);
        return x;
    }

    /** The same, and each guest is at this house. */
    static SieveGuests seated(int guests, int houses, int at) {
        SieveGuests x = gathering(guests, houses);
        for (int i = 0; i < guests; i++) {
            x.calls(i, at);
        }
        return x;
    }

    /** Nothing has room for one more: guests, houses, text, rows, evenings, liking, what may be undone. */
    static SieveGuests full() {
        SieveGuests x = new SieveGuests();
        for (int i = 0; i < MOST_GUESTS; i++) {
            x.guest(PARTY, 25 + i);
        }
        for (int h = 0; h < MOST_HOUSES; h++) {
            x.house(HORSEHAIR, 1 + h);
        }
        for (int k = 0; k < 5; k++) {
            x.seen(k, 0, k, 5);
        }
        for (int k = 0; k < 6; k++) {
            x.note(k, 30, 4, 34);
            x.mark(k % MOST_HOUSES, 10, 0, 10, 1);
        }
        write(x, " ".repeat(140) + "uplands 3;");
        for (int i = 0; i < MOST_GUESTS; i++) {
            x.calls(i, 1);
        }
        x.image(0);
        pass(x, 999);
        x.wets(2);
        x.image(1);
        return x;
    }

    static void pass(SieveGuests x, int evenings) {
        for (int left = evenings; left > 0; left -= 60) {
            x.evenings(Math.min(60, left));
        }
    }

    static void write(SieveGuests x, String text) {
        x.clear();
        for (int k = 0; k < text.length(); k++) {
            x.type(text.charAt(k));
        }
    }

    static int reads(SieveGuests x, String text) {
        write(x, text);
        return x.read();
    }
}
