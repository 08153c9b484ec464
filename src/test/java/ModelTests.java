import java.lang.reflect.InvocationTargetException;
import java.lang.reflect.Method;
import java.util.ArrayList;
import java.util.Arrays;
import java.util.Comparator;
import java.util.List;
import java.util.Random;

/** Long runs of calls by chance (by seeds that are always the same), each answer held against the model's. */
public final class ModelTests {
    private static final Due DUE = new Due("ModelTests");
    private static final int RUNS = 1500, CALLS = 512;
    /** How many calls the object at hand has had: what it answers behind the last one is free. */
    private static int made = 0;
    private static final String[] OFTEN = {"guest", "house", "calls", "evenings", "seen", "note", "mark"};
    private static final String[] SELDOM = {"uplands", "from", "clear"};
    private static final String[] SLOW = {"place"};

    public static void main(String[] args) throws ReflectiveOperationException {
        List<Method> calls = new ArrayList<>();
        for (Method m : SieveGuests.class.getDeclaredMethods()) {
            if (java.lang.reflect.Modifier.isPublic(m.getModifiers())) {
                calls.add(m);
            }
        }
        calls.sort(Comparator.comparing(Method::getName));
        for (int seed = 0; seed < RUNS && DUE.wrong() == 0; seed++) {
            run(seed, calls);
        }
        DUE.end();
    }

    private static void run(int seed, List<Method> calls) throws ReflectiveOperationException {
        Random random = new Random(seed);
        SieveGuests x = new SieveGuests();
        Model model = new Model();
        made = 0;
        for (int k = 0; made < CALLS && DUE.wrong() == 0; k++) {
            Method m = calls.get(random.nextInt(calls.size()));
            while (!isTaken(m.getName(), random)) {
                m = calls.get(random.nextInt(calls.size()));
            }
            String name = m.getName();
            if (name.equals("read") || name.equals("type") && random.nextInt(4) > 0) {
                String text = text(random);
                both(seed, k, x, model, "clear");
                for (int c = 0; c < text.length(); c++) {
                    both(seed, k, x, model, "type", (int) text.charAt(c));
                }
                both(seed, k, x, model, "read");
            } else {
                both(seed, k, x, model, name, arguments(name, m.getParameterCount(), random));
            }
            both(seed, k, x, model, "digest");
            both(seed, k, x, model, "status", k % 3);
        }
    }

    private static boolean isTaken(String name, Random random) {
        if (Arrays.asList(OFTEN).contains(name)) {
            return true;
        }
        int of = Arrays.asList(SELDOM).contains(name) ? 12 : Arrays.asList(SLOW).contains(name) ? 20 : 2;
        return random.nextInt(of) == 0;
    }

    private static void both(int seed, int k, SieveGuests x, Model model, String name, Integer... arguments)
            throws ReflectiveOperationException {
        if (made >= CALLS) {
            return;
        }
        made++;
        Class<?>[] types = new Class<?>[arguments.length];
        Arrays.fill(types, int.class);
        String told = where(seed, k, name + Arrays.toString(arguments));
        try {
            Number got = (Number) SieveGuests.class.getMethod(name, types).invoke(x, (Object[]) arguments);
            Method due = Model.class.getDeclaredMethod(name, types);
            Number want = (Number) due.invoke(model, (Object[]) arguments);
            DUE.is(told, got.longValue(), want.longValue());
        } catch (InvocationTargetException e) {
            DUE.holds(told + " ends without " + e.getCause(), false);
        }
    }

    private static String where(int seed, int k, String call) {
        return "run " + seed + ", call " + k + ", " + call;
    }

    /** Mostly numbers that may be taken, by what each place of a call asks for; at times any others. */
    private static Integer[] arguments(String name, int n, Random random) {
        int[] most = limits(name);
        Integer[] numbers = new Integer[n];
        for (int k = 0; k < n; k++) {
            int limit = k < most.length ? most[k] : 5;
            numbers[k] = random.nextInt(40) == 0 ? random.nextInt(2) * (limit + 2) - 1 : random.nextInt(limit + 1);
            if (random.nextInt(300) == 0) {
                numbers[k] = random.nextInt();
            }
        }
        return numbers;
    }

    private static int[] limits(String name) {
        switch (name) {
            case "guest": case "house": return new int[] {5, 30};
            case "type": return new int[] {127};
            case "uplands": case "wets": return new int[] {4};
            case "evenings": return new int[] {60};
            case "calls": case "stays": return new int[] {5, 3};
            case "of": return new int[] {5, 3};
            case "about": return new int[] {3, 4};
            case "great": return new int[] {5, 4};
            case "then": return new int[] {3, 60};
            case "when": return new int[] {3, 999};
            case "most": return new int[] {5, 1};
            case "mesh": return new int[] {5, 3, 5};
            case "seen": return new int[] {5, 3, 4, 5};
            case "sizes": return new int[] {5, 2};
            case "note": return new int[] {5, 30, 4, 34};
            case "mark": return new int[] {3, 30, 4, 60, 1};
            case "rivals": return new int[] {3, 3, 5, 20};
            case "rain": return new int[] {5, 10};
            case "years": return new int[] {999999, 60};
            case "part": case "image": case "from": return new int[] {1};
            case "count": return new int[] {10};
            case "status": case "forget": return new int[] {2};
            case "kinds": case "ask": return new int[] {3};
            default: return new int[0];
        }
    }

    /** Uplands that may be read; half of them with some bytes gone, come or changed. */
    private static String text(Random random) {
        StringBuilder text = new StringBuilder("uplands ").append(random.nextInt(5)).append(";");
        int guests = 0;
        int houses = 0;
        int items = random.nextInt(14);
        for (int k = 0; k < items; k++) {
            int what = random.nextInt(6);
            String gap = " ".repeat(random.nextInt(3) == 0 ? random.nextInt(3) : 0);
            if (what <= 1 && (guests < 6 || random.nextInt(20) == 0)) {
                text.append("guest" + gap + random.nextInt(6) + " " + (1 + random.nextInt(30)) + gap + ";" + gap);
                guests++;
            } else if (what == 2 && (houses < 4 || random.nextInt(20) == 0)) {
                text.append("house" + gap + random.nextInt(6) + " " + (1 + random.nextInt(30)) + gap + ";" + gap);
                houses++;
            } else if (what == 3 && guests > 0 && houses > 0) {
                text.append("call " + random.nextInt(guests) + gap + " " + random.nextInt(houses) + ";" + gap);
            } else if (what == 4 && guests > 0) {
                text.append("home" + gap + random.nextInt(guests) + gap + ";");
            } else {
                text.append("evenings" + gap + (1 + random.nextInt(99)) + gap + ";");
            }
        }
        for (int k = random.nextInt(4) - 1; k > 0; k--) {
            int at = random.nextInt(text.length() + 1);
            String some = "abgehuz0123456789;;  -\t/:`{\0\177";
            String c = String.valueOf(some.charAt(random.nextInt(some.length())));
            switch (random.nextInt(4)) {
                case 0: text.insert(at, c); break;
                case 1: text.replace(at, Math.min(at + 1, text.length()), c); break;
                case 2: text.delete(at, Math.min(at + 1 + random.nextInt(4), text.length())); break;
                default: text.setLength(at == 0 ? 1 : at);
            }
        }
        return text.toString();
    }
}
