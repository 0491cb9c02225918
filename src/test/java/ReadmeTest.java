import java.io.IOException;
import java.lang.reflect.Method;
import java.lang.reflect.Modifier;
import java.nio.file.Files;
import java.nio.file.Path;
import java.util.HashMap;
import java.util.Map;
import java.util.regex.Matcher;
import java.util.regex.Pattern;
import java.util.stream.Stream;

/** What README.md says holds: its examples are run line by line, its tables name what there is. */
public final class ReadmeTest extends Given {
    private static final Path PAGE = Path.of("README.md");
    private static final Path FILE = Path.of("src/main/java/FuelTurns.java");
    private static final Path TESTS = Path.of("src/test/java");
    private static final Pattern MADE = Pattern.compile("FuelTurns (\\w+) = new FuelTurns\\(\\);");
    private static final Pattern CALLED = Pattern.compile("(\\w+)\\.(\\w+)\\((.*)\\);\\s+// (-?\\d+): .+");

    private ReadmeTest() {
    }

    public static void main(String[] args) throws IOException, ReflectiveOperationException {
        String page = Files.readString(PAGE);
        examples(page);
        calls(page);
        findings(page);
        tests(page);
        atFirst();
        Check.end();
    }

    private static void examples(String page) throws ReflectiveOperationException {
        Map<String, FuelTurns> objects = new HashMap<>();
        Matcher block = Pattern.compile("(?s)```java\n(.*?)```").matcher(page);
        int lines = 0;
        while (block.find()) {
            for (String line : block.group(1).split("\n")) {
                example(line, objects);
                lines++;
            }
        }
        Check.holds("there are examples", lines > 20 && objects.size() > 1);
    }

    private static void example(String line, Map<String, FuelTurns> objects) throws ReflectiveOperationException {
        Matcher made = MADE.matcher(line);
        Matcher called = CALLED.matcher(line);
        if (made.matches()) {
            objects.put(made.group(1), new FuelTurns());
        } else if (called.matches() && objects.containsKey(called.group(1))) {
            long got = answer(objects.get(called.group(1)), called.group(2), called.group(3));
            Check.due("README: " + line, got, Long.parseLong(called.group(4)));
        } else {
            Check.holds("README: a line that can be run: " + line, false);
        }
    }

    private static Method callNamed(String name) {
        for (Method m : FuelTurns.class.getMethods()) {
            if (m.getDeclaringClass() == FuelTurns.class && m.getName().equals(name)) {
                return m;
            }
        }
        throw new IllegalArgumentException("README: there is no call " + name);
    }

    private static long answer(FuelTurns x, String name, String values) throws ReflectiveOperationException {
        Method call = callNamed(name);
        Class<?>[] types = call.getParameterTypes();
        String[] told = values.isEmpty() ? new String[0] : values.split(", ");
        Object[] given = new Object[told.length];
        for (int i = 0; i < told.length; i++) {
            given[i] = types[i] == boolean.class ? Boolean.valueOf(told[i])
                : types[i] == long.class ? Long.decode(told[i]) : (Object) Integer.decode(told[i]);
        }
        return ((Number) call.invoke(x, given)).longValue();
    }

    /** Each call once, with the names that the face has for what it takes. */
    private static void calls(String page) throws IOException {
        String file = Files.readString(FILE);
        Matcher call = Pattern.compile("(?m)^    public (?:int|long) (\\w+\\(.*\\)) \\{$").matcher(file);
        int found = 0;
        while (call.find()) {
            String row = "\n| `" + call.group(1).replaceAll("(int|long|boolean) (\\w+)", "$2") + "` | ";
            Check.due("README: rows of" + row, page.split(Pattern.quote(row), -1).length - 1, 1);
            found++;
        }
        Check.due("calls", found, 40);
        Check.due("README: rows of calls", page.split("\n\\| `\\w+\\(", -1).length - 1, 40);
    }

    private static void findings(String page) {
        String[] names = {"BEYOND", "FULL", "KIND", "NONE", "STATE", "MISSING", "SIZE"};
        int[] numbers = {BEYOND, FULL, KIND, NONE, STATE, MISSING, SIZE};
        for (int i = 0; i < names.length; i++) {
            Check.holds("README: " + names[i], page.contains("\n| " + names[i] + " | " + numbers[i] + " | " + i + " | "));
        }
    }

    private static void tests(String page) throws IOException {
        try (Stream<Path> files = Files.list(TESTS)) {
            for (Path file : (Iterable<Path>) files::iterator) {
                String name = file.getFileName().toString().replace(".java", "");
                Check.holds("README: names " + name, page.contains("`" + name + "`"));
            }
        }
        Matcher named = Pattern.compile("`(\\w+Test)`").matcher(page);
        while (named.find()) {
            Check.holds("README: there is a " + named.group(1), Files.exists(TESTS.resolve(named.group(1) + ".java")));
        }
    }

    private static void atFirst() {
        sentence("README: of a new object TODAY is 0, HEIGHT 0, FUEL 9, SCORE and RISK 0; ..");
        FuelTurns x = new FuelTurns();
        int[] things = {0, 0, 9, 0, 0};
        for (int what = 0; what < things.length; what++) {
            due(x.thing(what), things[what]);
        }
        int[] plan = {1, 100, 10, 1000000, 0, 9};
        for (int what = 0; what < plan.length; what++) {
            due(planned(x, what), plan[what]);
        }
        due(x.count(0), 0);
        due(x.count(3), 0);
        due(x.count(4), 0);
        due(x.tear(), 0);
        for (int s = 0; s < 4; s++) {
            due(x.read(s), MISSING);
        }
        sentence("README: write may answer a number below -1000000000 that is no finding");
        sheetOf(x, 0, 64, BEYOND);
        due(x.write(0, 0, 0), BEYOND);
        due(x.status(0), 0);
        Check.holds("README: objects share nothing", hasNoState(FuelTurns.class));
        for (Class<?> inside : FuelTurns.class.getDeclaredClasses()) {
            Check.holds("README: objects share nothing", hasNoState(inside));
        }
    }

    private static boolean hasNoState(Class<?> type) {
        return Stream.of(type.getDeclaredFields()).filter(f -> Modifier.isStatic(f.getModifiers()))
            .allMatch(f -> Modifier.isFinal(f.getModifiers()));
    }
}
