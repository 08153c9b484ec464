import java.lang.reflect.InvocationTargetException;
import java.lang.reflect.Method;
import java.util.ArrayList;
import java.util.Arrays;
import java.util.List;
import java.util.function.Supplier;

/**
 * Each number of each call: the least and the greatest one that is taken, with all ends of the others; the ones next to
 * them, and the ends of int, which are refused as BAD, ahead of NO and FULL, with only STATUS another behind them.
 */
public final class RangeTests {
    private static final int NONE = -1, BAD = -2, NO = -3, FULL = -4, WRONG = -10;
    private static final int MIN = Integer.MIN_VALUE, MAX = Integer.MAX_VALUE;
    private static final Due DUE = new Due("RangeTests");

    /** A call, what is taken for each of its numbers, and its answers: to one that is BAD, to one that is not. */
    private static final class Row {
        final String name;
        final int[][] ranges;
        int bad = BAD;
        /** Not 0: the call is refused like this when all its numbers are as told. */
        int otherwise = 0;

        Row(String name, int[]... ranges) {
            this.name = name;
            this.ranges = ranges;
        }

        Row whenBad(int answer) {
            bad = answer;
            return this;
        }

        Row orElse(int refusal) {
            otherwise = refusal;
            return this;
        }
    }

    public static void main(String[] args) {
        rangesOf("nobody", Scenes::nobody, 0, 0, 0);
        rangesOf("guests alone", () -> Scenes.gathering(2, 0), 2, 0, 0);
        rangesOf("houses alone", () -> Scenes.gathering(0, 2), 0, 2, 0);
        rangesOf("one of each", () -> Scenes.gathering(1, 1), 1, 1, 0);
        rangesOf("some", () -> Scenes.gathering(3, 2), 3, 2, 0);
        rangesOf("full", Scenes::full, 6, 4, FULL);
        moving();
        kept();
        DUE.end();
    }

    private static int[] of(int least, int greatest) {
        return new int[] {least, greatest};
    }

    private static void rangesOf(String scene, Supplier<SieveGuests> made, int guests, int houses, int room) {
        int[] g = of(0, guests - 1);
        int[] h = of(0, houses - 1);
        for (Row row : lasting(g, h)) {
            hold(scene, made, row);
        }
        for (Row row : growing(g, h)) {
            hold(scene, made, row.orElse(room));
        }
    }

    /** Calls for which there is always room. */
    private static List<Row> lasting(int[] g, int[] h) {
        return List.of(new Row("uplands", of(0, 4)), new Row("evenings", of(1, 60)), new Row("of", g, of(0, 3)),
                new Row("about", h, of(0, 4)), new Row("great", g, of(0, 4)), new Row("stays", g, h),
                new Row("then", h, of(0, 60)), new Row("when", h, of(1, 999)), new Row("most", g, of(0, 1)),
                new Row("round", g), new Row("mesh", g, h, of(0, 5)),
                new Row("place", of(NONE, g[1])).whenBad(WRONG), new Row("sizes", g, of(0, 2)), new Row("tell", g),
                new Row("forget", of(0, 2)), new Row("is", g), new Row("look", g), new Row("kinds", h),
                new Row("ask", h), new Row("rivals", h, h, g, of(NONE, MAX)).whenBad(WRONG),
                new Row("rain", g, of(0, 10)), new Row("years", of(0, 999999), of(0, 60)), new Row("part", of(0, 1)),
                new Row("image", of(0, 1)), new Row("status", of(0, 2)).whenBad(-1), new Row("count", of(0, 10)));
    }

    /** Calls that are refused as FULL where there is no more room. */
    private static List<Row> growing(int[] g, int[] h) {
        return List.of(new Row("guest", of(0, 5), of(1, 30)), new Row("house", of(0, 5), of(1, 30)),
                new Row("type", of(0, 127)), new Row("seen", g, h, of(0, 4), of(0, 5)),
                new Row("note", g, of(1, 30), of(0, 4), of(0, 60)),
                new Row("mark", h, of(1, 30), of(0, 4), of(0, 60), of(0, 1)));
    }

    /** Guests call where they are not, leave where they are; the wet becomes another. */
    private static void moving() {
        int[] g = of(0, 2);
        int[] h = of(0, 1);
        hold("at home", () -> Scenes.gathering(3, 2), new Row("calls", g, h));
        hold("at home", () -> Scenes.gathering(3, 2), new Row("leaves", g).orElse(NO));
        hold("at the second house", () -> Scenes.seated(3, 3, 1), new Row("calls", g, of(0, 2)));
        hold("at the second house", () -> Scenes.seated(3, 3, 1), new Row("leaves", g));
        hold("at the only house", () -> Scenes.seated(3, 1, 0), new Row("calls", g, of(0, 0)).orElse(NO));
        hold("full", Scenes::full, new Row("calls", of(0, 5), of(0, 3)));
        hold("full", Scenes::full, new Row("leaves", of(0, 5)));
        hold("nobody", Scenes::nobody, new Row("calls", of(0, -1), of(0, -1)));
        hold("nobody", Scenes::nobody, new Row("leaves", of(0, -1)));
        hold("guests alone", () -> Scenes.gathering(2, 0), new Row("calls", of(0, 1), of(0, -1)));
        hold("houses alone", () -> Scenes.gathering(0, 2), new Row("calls", of(0, -1), h));
        hold("wet 2", () -> Scenes.gathering(3, 2), new Row("wets", of(0, 4)));
        hold("wet 2, full", Scenes::full, new Row("wets", of(0, 4)));
    }

    private static void kept() {
        hold("no image kept", Scenes::nobody, new Row("from", of(0, 1)).orElse(NO));
        hold("images kept", () -> Scenes.gathering(3, 2), new Row("from", of(0, 1)));
        hold("images kept, full", Scenes::full, new Row("from", of(0, 1)));
    }

    private static void hold(String scene, Supplier<SieveGuests> made, Row row) {
        List<int[]> corners = corners(row.ranges);
        for (int[] corner : corners) {
            if (isTold(row, corner)) {
                taken(scene, made, row, corner);
            }
            for (int k = 0; k < corner.length; k++) {
                for (int beyond : beyond(row.ranges[k])) {
                    int[] numbers = corner.clone();
                    numbers[k] = beyond;
                    refused(scene, made, row, numbers, row.bad, BAD);
                }
            }
        }
    }

    /** All ways to take the least or the greatest number in each place. */
    private static List<int[]> corners(int[][] ranges) {
        List<int[]> corners = new ArrayList<>();
        for (int way = 0; way < 1 << ranges.length; way++) {
            int[] corner = new int[ranges.length];
            boolean isNew = true;
            for (int k = 0; k < ranges.length; k++) {
                int end = way >> k & 1;
                isNew &= end == 0 || ranges[k][1] > ranges[k][0];
                corner[k] = ranges[k][end];
            }
            if (isNew) {
                corners.add(corner);
            }
        }
        return corners;
    }

    private static List<Integer> beyond(int[] range) {
        List<Integer> beyond = new ArrayList<>(List.of(range[0] - 1, MIN));
        if (range[1] < MAX) {
            beyond.addAll(List.of(range[1] + 1, MAX));
        }
        return beyond;
    }

    /** Whether there is anything to be taken in each place, and rivals are two. */
    private static boolean isTold(Row row, int[] corner) {
        boolean told = !row.name.equals("rivals") || corner[0] != corner[1];
        for (int[] range : row.ranges) {
            told &= range[0] <= range[1];
        }
        return told;
    }

    private static void taken(String scene, Supplier<SieveGuests> made, Row row, int[] numbers) {
        if (row.otherwise != 0) {
            refused(scene, made, row, numbers, row.otherwise, row.otherwise);
            return;
        }
        SieveGuests x = made.get();
        String what = told(scene, row, numbers);
        int[] before = {x.status(0), x.status(1), x.status(2)};
        long answer = answer(x, row.name, numbers);
        DUE.holds(what + " is taken, not answered " + answer, answer != BAD && answer != NO && answer != FULL
                && answer != WRONG);
        for (int s = 0; s < before.length; s++) {
            DUE.is(what + " is taken, then status(" + s + ")", x.status(s), before[s]);
        }
    }

    private static void refused(String scene, Supplier<SieveGuests> made, Row row, int[] numbers, int answer, int reason) {
        Twins.refused(DUE, told(scene, row, numbers), made, x -> answer(x, row.name, numbers), answer, reason);
    }

    private static String told(String scene, Row row, int[] numbers) {
        return scene + ": " + row.name + Arrays.toString(numbers);
    }

    private static long answer(SieveGuests x, String name, int[] numbers) {
        Class<?>[] types = new Class<?>[numbers.length];
        Arrays.fill(types, int.class);
        try {
            Method call = SieveGuests.class.getMethod(name, types);
            return ((Number) call.invoke(x, Arrays.stream(numbers).boxed().toArray())).longValue();
        } catch (InvocationTargetException e) {
            DUE.holds(name + Arrays.toString(numbers) + " ends without " + e.getCause(), false);
            return MIN;
        } catch (ReflectiveOperationException e) {
            throw new IllegalStateException(e);
        }
    }
}
