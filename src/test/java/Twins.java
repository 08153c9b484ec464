import java.util.ArrayList;
import java.util.List;
import java.util.function.Supplier;

/** Two objects made by the same calls, and one call more on the first: what it changed is what sets the two apart. */
final class Twins {
    private static final int GUESTS = 0, HOUSES = 1, COUNTS = 11, REASONS = 3, IMAGES = 2, MOST_UNDONE = 8;
    private static final int BAD = -2;

    /** One call. */
    interface Call {
        long on(SieveGuests x);
    }

    private Twins() {
    }

    /** The call is refused with this answer, for this reason (BAD, NO, FULL), and only STATUS is another behind it. */
    static void refused(Due due, String what, Supplier<SieveGuests> scene, Call call, long answer, int reason) {
        compare(due, what, scene, call, answer, BAD - reason);
    }

    /** The call has this answer, is no refusal, and nothing is another behind it. */
    static void changesNothing(Due due, String what, Supplier<SieveGuests> scene, Call call, long answer) {
        compare(due, what, scene, call, answer, -1);
    }

    private static void compare(Due due, String what, Supplier<SieveGuests> scene, Call call, long answer, int counted) {
        SieveGuests x = scene.get();
        SieveGuests twin = scene.get();
        due.is(what, call.on(x), answer);
        for (int s = 0; s < REASONS; s++) {
            due.is(what + ", then status(" + s + ")", x.status(s), twin.status(s) + (s == counted ? 1 : 0));
        }
        due.holds(what + ", then all else is as it was", allThatIs(x).equals(allThatIs(twin)));
    }

    /** All that can be seen of an object: its answers, what is undone, what the text tells, what images kept. */
    private static List<Long> allThatIs(SieveGuests x) {
        List<Long> seen = new ArrayList<>();
        look(x, seen);
        goBack(x, seen);
        for (int i = 0; i < IMAGES; i++) {
            seen.add((long) x.from(i));
            seen.add(x.digest());
            goBack(x, seen);
        }
        seen.add((long) x.read());
        seen.add(x.digest());
        seen.add((long) x.clear());
        return seen;
    }

    private static void look(SieveGuests x, List<Long> seen) {
        for (int what = 0; what < COUNTS; what++) {
            seen.add((long) x.count(what));
        }
        seen.add(x.digest());
        seen.add((long) x.place(-1));
        for (int i = 0; i < x.count(GUESTS); i++) {
            seen.add((long) x.of(i, 3));
            seen.add((long) x.most(i, 1));
            seen.add((long) x.sizes(i, 0));
            seen.add((long) x.is(i));
            seen.add((long) x.look(i));
        }
        for (int h = 0; h < x.count(HOUSES); h++) {
            seen.add((long) x.about(h, 3));
            seen.add((long) x.about(h, 4));
            seen.add((long) x.kinds(h));
            seen.add((long) x.ask(h));
        }
    }

    private static void goBack(SieveGuests x, List<Long> seen) {
        for (int k = 0; k <= MOST_UNDONE && x.count(9) > 0; k++) {
            seen.add((long) x.undo());
            seen.add(x.digest());
        }
    }
}
