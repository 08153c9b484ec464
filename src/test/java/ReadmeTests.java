import java.io.IOException;
import java.io.StringWriter;
import java.lang.reflect.InvocationTargetException;
import java.lang.reflect.Method;
import java.lang.reflect.Modifier;
import java.net.URL;
import java.net.URLClassLoader;
import java.nio.file.Files;
import java.nio.file.Path;
import java.util.ArrayList;
import java.util.Arrays;
import java.util.Comparator;
import java.util.List;
import java.util.Set;
import java.util.TreeSet;
import java.util.function.Supplier;
import java.util.regex.Matcher;
import java.util.regex.Pattern;
import java.util.stream.Stream;
import javax.tools.ToolProvider;

/** What README.md shows: its program and each answer told behind a call, its table of calls. */
public final class ReadmeTests {
    private static final int NONE = -1, BAD = -2, MAX = Integer.MAX_VALUE;
    private static final int GUESTS = 3, HOUSES = 3;
    private static final Due DUE = new Due("ReadmeTests");
    private static final String END = "    }\n}\n";

    /** A row of the table of calls. */
    private static final class Row {
        final String name;
        final List<String> names = new ArrayList<>();
        final List<int[]> ranges = new ArrayList<>();
        final String refused;

        Row(String call, String numbers, String refused) {
            name = call.substring(0, call.indexOf('('));
            this.refused = refused;
            for (String number : numbers.isEmpty() ? new String[0] : numbers.split(", ")) {
                int gap = number.indexOf(' ');
                names.add(number.substring(0, gap));
                ranges.add(range(number.substring(gap + 1)));
            }
            DUE.holds(call + " tells each of its numbers", call.equals(name + "(" + String.join(", ", names) + ")"));
        }

        private static int[] range(String told) {
            switch (told) {
                case "a guest": return new int[] {0, GUESTS - 1};
                case "a house": return new int[] {0, HOUSES - 1};
                case "another house": return new int[] {1, HOUSES - 1};
                case "a guest or NONE": return new int[] {NONE, GUESTS - 1};
                case "NONE or more": return new int[] {NONE, MAX};
                default: return Stream.of(told.split(" \\.\\. ")).mapToInt(Integer::parseInt).toArray();
            }
        }

        int badAnswer() {
            Matcher other = Pattern.compile("BAD as (-\\d+)").matcher(refused);
            return other.find() ? Integer.parseInt(other.group(1)) : BAD;
        }

        int[] least() {
            return ranges.stream().mapToInt(r -> r[0]).toArray();
        }
    }

    public static void main(String[] args) throws IOException, ReflectiveOperationException {
        String page = Files.readString(Path.of(args[1]));
        program(page);
        List<Row> rows = rows(page);
        everyCallIsThere(page, rows);
        for (Row row : rows) {
            ranges(row);
            reasons(row);
        }
        DUE.end();
    }

    // ---- the program

    private static void program(String page) throws IOException, ReflectiveOperationException {
        List<String> blocks = new ArrayList<>();
        Matcher m = Pattern.compile("(?s)```java\n(.*?)```").matcher(page);
        while (m.find()) {
            blocks.add(m.group(1));
        }
        String first = blocks.get(0);
        runs("Supper", first);
        DUE.holds("Supper ends as a program does", first.endsWith(END));
        StringBuilder whole = new StringBuilder(first.substring(0, Math.max(0, first.length() - END.length())));
        blocks.stream().skip(1).forEach(whole::append);
        List<String> lines = whole.append(END).toString().lines().map(ReadmeTests::asked).toList();
        runs("Supper with what follows", String.join("\n", lines));
        answers();
    }

    private static final Pattern SHOWN = Pattern.compile("\\s*(x\\.\\w+\\(.*\\));\\s*// (-?\\d+): .*");

    /** A line that shows an answer keeps both; any other one stays as it is. */
    private static String asked(String line) {
        Matcher m = SHOWN.matcher(line);
        DUE.holds("'" + line + "' shows an answer", m.matches() == line.contains("//"));
        return m.matches() ? "Answers.add(\"" + m.group(1) + "\", " + m.group(1) + ", " + m.group(2) + ");" : line;
    }

    /** Compiles Supper, and runs it. */
    private static void runs(String what, String source) throws IOException, ReflectiveOperationException {
        Path room = Files.createTempDirectory("readme");
        try {
            Files.writeString(room.resolve("Supper.java"), source);
            Files.writeString(room.resolve("Answers.java"), ANSWERS);
            StringWriter said = new StringWriter();
            var compiler = ToolProvider.getSystemJavaCompiler();
            var files = compiler.getStandardFileManager(null, null, null);
            boolean compiled = compiler.getTask(said, files, null,
                    List.of("-d", room.toString(), "-cp", System.getProperty("java.class.path")), null,
                    files.getJavaFileObjects(room.resolve("Supper.java"), room.resolve("Answers.java"))).call();
            files.close();
            DUE.holds(what + " compiles " + said, compiled);
            if (compiled) {
                runMain(what, room);
            }
        } finally {
            sweep(room);
        }
    }

    private static final String ANSWERS = "public final class Answers {"
            + " public static final java.util.List<Object[]> ALL = new java.util.ArrayList<>();"
            + " static void add(String call, long got, long shown) { ALL.add(new Object[] {call, got, shown}); } }";
    private static final List<Object[]> ALL = new ArrayList<>();

    private static void runMain(String what, Path room) throws IOException, ReflectiveOperationException {
        try (URLClassLoader loader = new URLClassLoader(new URL[] {room.toUri().toURL()})) {
            loader.loadClass("Supper").getMethod("main", String[].class).invoke(null, (Object) new String[0]);
            for (Object answer : (List<?>) loader.loadClass("Answers").getField("ALL").get(null)) {
                ALL.add((Object[]) answer);
            }
        } catch (InvocationTargetException e) {
            DUE.holds(what + " ends without " + e.getCause(), false);
        }
    }

    private static void answers() {
        for (Object[] answer : ALL) {
            DUE.is("README.md: " + answer[0], (Long) answer[1], (Long) answer[2]);
        }
        DUE.holds("answers are shown", ALL.size() > 60);
    }

    private static void sweep(Path room) throws IOException {
        try (Stream<Path> all = Files.walk(room)) {
            for (Path p : all.sorted(Comparator.reverseOrder()).toList()) {
                Files.delete(p);
            }
        }
    }

    // ---- the table of calls

    private static List<Row> rows(String page) {
        List<Row> rows = new ArrayList<>();
        Matcher m = Pattern.compile("(?m)^\\| `(\\w+\\(.*\\))` \\|(.*)\\|(.*)\\|(.*)\\|$").matcher(page);
        while (m.find()) {
            rows.add(new Row(m.group(1), m.group(2).trim(), m.group(4).trim()));
        }
        return rows;
    }

    private static void everyCallIsThere(String page, List<Row> rows) {
        Set<String> face = new TreeSet<>();
        Set<String> longs = new TreeSet<>();
        for (Method m : SieveGuests.class.getDeclaredMethods()) {
            if (Modifier.isPublic(m.getModifiers())) {
                face.add(m.getName() + " " + m.getParameterCount());
                if (m.getReturnType() == long.class) {
                    longs.add(m.getName());
                }
            }
        }
        Set<String> told = new TreeSet<>();
        rows.forEach(row -> told.add(row.name + " " + row.names.size()));
        DUE.holds("the table tells each call, and told are " + told, told.equals(face) && rows.size() == face.size());
        DUE.holds("a long is the answer of " + longs, longs.equals(Set.of("part", "digest"))
                && page.contains("`part` and `digest` answer a long, all others an int."));
    }

    /** Each number as least and as greatest is taken; the ones next to them are BAD. */
    private static void ranges(Row row) {
        DUE.holds(row.name + " tells BAD if it has numbers", row.refused.contains("BAD") == !row.names.isEmpty());
        for (int k = 0; k < row.names.size(); k++) {
            int[] range = row.ranges.get(k);
            boolean isEnd = range[1] == MAX;
            isBad(row, k, range[0], false);
            isBad(row, k, range[1], false);
            isBad(row, k, range[0] - 1, true);
            isBad(row, k, isEnd ? range[0] - 2 : range[1] + 1, true);
        }
    }

    private static void isBad(Row row, int k, int number, boolean bad) {
        int[] numbers = row.least();
        numbers[k] = number;
        SieveGuests x = Scenes.gathering(GUESTS, HOUSES);
        int before = x.status(0);
        long answer = answer(x, row.name, numbers);
        String what = row.name + Arrays.toString(numbers);
        DUE.is(what + " is BAD", x.status(0) - before, bad ? 1 : 0);
        DUE.holds(what + ", not so " + answer, !bad || answer == row.badAnswer());
    }

    /** NO and FULL are told of the calls that are ever refused so. */
    private static void reasons(Row row) {
        Supplier<SieveGuests> one = () -> Scenes.one(0, 9, 0, 1);
        SieveGuests x = one.get();
        answer(x, row.name, row.least());
        answer(x, row.name, row.least());
        DUE.holds(row.name + " tells NO", row.refused.contains("NO") == x.status(1) > 0);
        SieveGuests full = Scenes.full();
        int before = full.status(2);
        answer(full, row.name, row.least());
        DUE.holds(row.name + " tells FULL", row.refused.contains("FULL") == full.status(2) > before);
    }

    private static long answer(SieveGuests x, String name, int[] numbers) {
        Class<?>[] types = new Class<?>[numbers.length];
        Arrays.fill(types, int.class);
        try {
            Method call = SieveGuests.class.getMethod(name, types);
            return ((Number) call.invoke(x, Arrays.stream(numbers).boxed().toArray())).longValue();
        } catch (ReflectiveOperationException e) {
            throw new IllegalStateException(name, e);
        }
    }
}
