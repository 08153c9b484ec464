import java.io.IOException;
import java.lang.reflect.Constructor;
import java.lang.reflect.Field;
import java.lang.reflect.Method;
import java.lang.reflect.Modifier;
import java.nio.file.Files;
import java.nio.file.Path;
import java.util.ArrayList;
import java.util.Arrays;
import java.util.List;
import java.util.Map;
import java.util.Set;
import java.util.TreeMap;
import java.util.TreeSet;
import java.util.regex.Matcher;
import java.util.regex.Pattern;

/** The public face of the document, and of ../shared/LANGUAGE.md what a test can see in the source and the classes. */
public final class LanguageTests {
    private static final Due DUE = new Due("LanguageTests");
    private static final String FACE = "int uplands 1, int guest 2, int house 2, int type 1, int clear 0, int read 0, "
            + "int calls 2, int leaves 1, int wets 1, int evenings 1, int undo 0, int of 2, int about 2, int great 2, "
            + "int stays 2, int then 2, int when 2, int most 2, int round 1, int mesh 3, int place 1, int seen 4, "
            + "int sizes 2, int tell 1, int note 4, int mark 5, int forget 1, int is 1, int look 1, int kinds 1, "
            + "int ask 1, int rivals 4, int rain 2, int years 2, long part 1, int image 1, int from 1, int status 1, "
            + "int count 1, long digest 0";
    private static final String[] FORBIDDEN = {"\\bimport\\b", "\\bpackage\\b", "\\bthrows?\\b", "\\btry\\b",
        "\\bcatch\\b", "\\bfinally\\b", "\\bsynchronized\\b", "\\bassert\\b", "->", "::", "\\bstatic\\s*\\{",
        "\\w+Exact\\b", "\\b(Object|Map|Set|Scanner|Random|Thread|Class|Arrays\\.sort)\\b", "\\bSystem\\.(?!arraycopy)",
        "\\b(equals|hashCode|toString)\\s*\\(", "\\bvolatile\\b", "\\bnative\\b"};

    private static final Set<String> LIBRARY = Set.of("length", "charAt", "min", "max", "bitCount", "arraycopy");

    public static void main(String[] args) throws IOException {
        face();
        source(Files.readString(Path.of(args[0])));
        room();
        DUE.end();
    }

    private static void face() {
        Class<?> c = SieveGuests.class;
        Set<String> want = new TreeSet<>(Arrays.asList(FACE.split(", ")));
        Set<String> got = new TreeSet<>();
        for (Method m : c.getDeclaredMethods()) {
            if (Modifier.isPublic(m.getModifiers())) {
                got.add(m.getReturnType() + " " + m.getName() + " " + m.getParameterCount());
                DUE.holds(m + " takes ints", Arrays.stream(m.getParameterTypes()).allMatch(t -> t == int.class));
                DUE.holds(m + " is of the object", !Modifier.isStatic(m.getModifiers()));
            } else {
                DUE.holds(m + " is private", Modifier.isPrivate(m.getModifiers()) || m.isSynthetic());
            }
        }
        DUE.holds("the face is " + got, got.equals(want));
        for (Field f : c.getDeclaredFields()) {
            boolean constant = List.of("NONE", "BAD", "NO", "FULL").contains(f.getName());
            int asked = Modifier.PUBLIC | Modifier.STATIC | Modifier.FINAL;
            DUE.holds(f + " is open or private", constant ? f.getModifiers() == asked : Modifier.isPrivate(f.getModifiers()));
        }
        Constructor<?>[] makers = c.getDeclaredConstructors();
        DUE.is("constructors", makers.length, 1);
        DUE.holds("the constructor is public", Modifier.isPublic(makers[0].getModifiers()));
        DUE.holds("the class is public and final", c.getModifiers() == (Modifier.PUBLIC | Modifier.FINAL));
        inside(c);
        state(c);
        for (Class<?> inner : c.getDeclaredClasses()) {
            state(inner);
        }
    }

    /** Static is only what never changes; fields are of the types of rule 3. */
    private static void state(Class<?> c) {
        for (Field f : c.getDeclaredFields()) {
            Class<?> type = f.getType();
            boolean plain = Set.of(int.class, boolean.class, long.class).contains(type);
            Class<?> cell = type.isArray() ? type.getComponentType() : type;
            boolean own = List.of(SieveGuests.class.getDeclaredClasses()).contains(cell);
            DUE.holds(f + " is static only as a constant", !Modifier.isStatic(f.getModifiers())
                    || Modifier.isFinal(f.getModifiers()) && plain);
            DUE.holds(f + " is of a type that may be", plain || own || cell == int.class);
        }
    }

    private static void inside(Class<?> c) {
        DUE.holds("at most twelve classes", c.getDeclaredClasses().length < 12);
        for (Class<?> inner : c.getDeclaredClasses()) {
            boolean seen = Modifier.isPublic(inner.getModifiers()) || Modifier.isProtected(inner.getModifiers());
            DUE.holds(inner + " is static, not public", Modifier.isStatic(inner.getModifiers()) && !seen);
            long fields = Arrays.stream(inner.getDeclaredFields()).filter(f -> !Modifier.isStatic(f.getModifiers())).count();
            DUE.holds(inner + " has few fields", fields <= 20);
            for (Method m : inner.getDeclaredMethods()) {
                DUE.holds(m + " bears no public name", !(" " + FACE).matches(".* " + m.getName() + " \\d.*"));
                DUE.holds(m + " takes few", m.getParameterCount() <= 7);
            }
        }
        for (Method m : c.getDeclaredMethods()) {
            boolean taken = (" " + FACE).matches(".* " + m.getName() + " \\d.*");
            DUE.holds(m + " bears no public name", Modifier.isPublic(m.getModifiers()) || !taken);
        }
    }

    private static void source(String whole) {
        DUE.holds("signs are 1 to 127", whole.chars().allMatch(c -> c > 0 && c < 128));
        String code = whole.replaceAll("(?s)/\\*.*?\\*/", "").replaceAll("//[^\n]*", "");
        Matcher texts = Pattern.compile("\"[^\"\n]*\"").matcher(code);
        code = texts.replaceAll("\"\"");
        for (String f : FORBIDDEN) {
            Matcher m = Pattern.compile(f).matcher(code);
            DUE.holds("no " + f + (m.find() ? " but " + m.group() : ""), !m.reset().find());
        }
        List<String> methods = methods(code);
        for (String method : methods) {
            DUE.holds("short: " + method.lines().findFirst().orElse(""), method.lines().count() <= 60);
        }
        library(code, methods);
        depth(methods);
    }

    private static String nameOf(String method) {
        return method.substring(0, method.indexOf('(')).replaceAll(".*[ \n]", "");
    }

    private static Set<String> found(String pattern, String code) {
        Set<String> found = new TreeSet<>();
        Matcher m = Pattern.compile(pattern).matcher(code);
        while (m.find()) {
            found.add(m.group(1));
        }
        return found;
    }

    /** What is called on another thing, and what is made, is the program's own, or stands in rule 4. */
    private static void library(String code, List<String> methods) {
        Set<String> called = found("\\.\\s*(\\w+)\\(", code);
        methods.forEach(method -> called.remove(nameOf(method)));
        called.removeAll(LIBRARY);
        DUE.holds("of the library only what stands in rule 4, not " + called, called.isEmpty());
        Set<String> made = found("\\bnew (\\w+)", code);
        made.removeAll(found("\\bclass (\\w+)", code));
        DUE.holds("made are its own and rows of int, not " + made, made.equals(Set.of("int")));
        DUE.holds("rows are of one dimension", !code.contains("[][]"));
    }

    /** By names alone, so methods of one name count as one; one that calls itself counts once. */
    private static void depth(List<String> methods) {
        Map<String, Set<String>> calls = new TreeMap<>();
        for (String method : methods) {
            String body = method.substring(method.indexOf('{'));
            calls.computeIfAbsent(nameOf(method), n -> new TreeSet<>()).addAll(found("\\b(\\w+)\\(", body));
        }
        calls.values().forEach(called -> called.retainAll(calls.keySet()));
        for (String name : calls.keySet()) {
            int deep = deepest(calls, name, new ArrayList<>());
            DUE.holds(name + " calls " + deep + " deep, at most eight", deep <= 8);
        }
    }

    private static int deepest(Map<String, Set<String>> calls, String name, List<String> open) {
        if (open.contains(name)) {
            return 0;
        }
        open.add(name);
        int deep = 0;
        for (String called : calls.get(name)) {
            deep = Math.max(deep, deepest(calls, called, open));
        }
        open.remove(name);
        return deep + 1;
    }

    /** Each method with its body: from a line that opens one to the brace that closes it at the same depth. */
    private static List<String> methods(String code) {
        List<String> found = new ArrayList<>();
        Matcher m = Pattern.compile("(?m)^( +)(?!.*\\b(class|new)\\b)[\\w<>\\[\\] ]+\\([^)]*\\) \\{$").matcher(code);
        while (m.find()) {
            int end = code.indexOf("\n" + m.group(1) + "}", m.end());
            found.add(code.substring(m.start(), end < 0 ? code.length() : end));
        }
        DUE.holds("methods are found", found.size() > 100);
        return found;
    }

    /** All calls of a run live in one room: what 512 calls of the dearest kinds make stays small. */
    private static void room() {
        com.sun.management.ThreadMXBean threads =
                (com.sun.management.ThreadMXBean) java.lang.management.ManagementFactory.getThreadMXBean();
        long me = Thread.currentThread().getId();
        spend();
        long before = threads.getThreadAllocatedBytes(me);
        spend();
        long bytes = threads.getThreadAllocatedBytes(me) - before;
        DUE.holds("512 calls make few objects, in bytes " + bytes, bytes < 10000);
    }

    private static void spend() {
        SieveGuests x = new SieveGuests();
        String text = "uplands1;guest0 9;guest1 9;guest2 9;guest3 9;guest4 9;guest5 9;"
                + "house0 1;house1 2;house3 5;house5 9;call0 0;call1 0;evenings9;";
        for (int k = 0; k < text.length(); k++) {
            x.type(text.charAt(k));
        }
        for (int k = 0; k < 18; k++) {
            x.read();
            x.image(k % 2);
            x.from(k % 2);
            x.calls(2, 1);
            x.evenings(60);
            x.undo();
            x.seen(0, 0, 0, 5);
            x.note(0, 1, 0, 1);
            x.mark(0, 1, 0, 1, 1);
            x.place(-1);
            x.round(0);
            x.tell(0);
            x.look(0);
            x.ask(0);
            x.rivals(0, 1, 0, -1);
            x.rain(0, 3);
            x.years(k, 60);
            x.when(0, 999);
            x.digest();
            x.sizes(0, 2);
            x.mesh(0, 0, 5);
        }
    }
}
