import java.io.IOException;
import java.lang.reflect.Constructor;
import java.lang.reflect.Field;
import java.lang.reflect.Method;
import java.lang.reflect.Modifier;
import java.nio.file.Files;
import java.nio.file.Path;
import java.util.ArrayList;
import java.util.Arrays;
import java.util.HashSet;
import java.util.List;
import java.util.Set;
import java.util.TreeSet;
import java.util.regex.Matcher;
import java.util.regex.Pattern;

/** The public face is the document's: its calls, their order, and what the interface says ahead of them. */
public final class FaceTest {
    private static final Path FILE = Path.of("src/main/java/FuelTurns.java");
    private static final Path DOCUMENT = Path.of("../shared/DOC.md");
    private static final String FACE = """
        public FuelTurns()
        ---- the thing
        public int plan(int what, int v)
        public int move(int steps)
        public int may(int steps)
        public int days(int n)
        public int runs(int n)
        public long thing(int what)
        ---- warnings
        public int warn(int kind, int of, int chance)
        public int of(int warning, int what)
        public int as(int warning, int kind)
        public int struck(int warning, int height)
        public int look(int warning, int sureness, boolean real)
        public int think(int warning, int sureness, boolean real)
        public int danger(int day, int height)
        public int safest(int day)
        public int open()
        ---- the rule
        public int feed(int bytes, int n)
        public int wipe()
        public int rule()
        public int drift()
        public int says(int what)
        ---- what is best
        public long best(int n, int what)
        public int turn(int n, int i)
        public long rest(int n)
        public int home(int danger, int more)
        public long know(int warning, int sureness, int n)
        public int life(int lots, int n)
        public int lives(int l, int many, int n)
        ---- two, a swarm
        public int rests(int s)
        public int both(int s, int what)
        public int swarm(int s, int gap, int most, int what)
        ---- sheets
        public int sheet(int s, int bits, int n)
        public long write(int s, int i, long v)
        public int copy(int s, int from, int t, int to, int n)
        public int turns(int s)
        public int read(int s)
        ---- images
        public int image()
        public int undo()
        public int tear()
        public int count(int what)
        public int status(int which)
        """;

    private FaceTest() {
    }

    public static void main(String[] args) throws IOException {
        List<String> face = FACE.lines().toList();
        same("the face as it is written", faceWritten(Files.readString(FILE)), face);
        same("the face as it is compiled", facesCompiled(), new ArrayList<>(typesOf(face)));
        if (Files.exists(DOCUMENT)) {
            same("the document's face", faceOfDocument(Files.readString(DOCUMENT)), face);
        } else {
            System.out.println("no " + DOCUMENT + " to look the face up in");
        }
        members();
        Check.end();
    }

    private static void same(String what, List<String> got, List<String> want) {
        Check.due(what + ": how many", got.size(), want.size());
        for (int i = 0; i < Math.min(got.size(), want.size()); i++) {
            Check.holds(what + ": '" + got.get(i) + "', due is '" + want.get(i) + "'", got.get(i).equals(want.get(i)));
        }
    }

    /** In the order of the file: what is public, and the lines of the interface ahead of it. */
    private static List<String> faceWritten(String file) {
        List<String> face = new ArrayList<>();
        Matcher line = Pattern.compile("(?m)^    (?:// (---- .*)|(public .*) \\{)$").matcher(file);
        while (line.find()) {
            face.add(line.group(1) != null ? line.group(1) : line.group(2));
        }
        return face;
    }

    /** Without the names of what is taken, which are gone when a class is compiled. */
    private static Set<String> typesOf(List<String> face) {
        Set<String> types = new TreeSet<>();
        for (String line : face) {
            if (line.startsWith("public ") && !line.contains(" FuelTurns(")) {
                types.add(line.replaceAll("(int|long|boolean) \\w+([,)])", "$1$2"));
            }
        }
        return types;
    }

    private static List<String> facesCompiled() {
        Set<String> face = new TreeSet<>();
        for (Method m : FuelTurns.class.getDeclaredMethods()) {
            if (!Modifier.isPrivate(m.getModifiers())) {
                String types = Arrays.toString(m.getParameterTypes());
                face.add(Modifier.toString(m.getModifiers()) + " " + m.getReturnType() + " " + m.getName()
                    + "(" + types.substring(1, types.length() - 1) + ")");
            }
        }
        return new ArrayList<>(face);
    }

    /** Its block of Java, with each line of the interface put in ahead of the calls that it names. */
    private static List<String> faceOfDocument(String document) {
        List<String> face = new ArrayList<>();
        Matcher block = Pattern.compile("(?s)public final class FuelTurns \\{\n(.*?)\n\\}").matcher(document);
        Check.holds("the document has a face", block.find());
        for (String line : block.group(1).split("\n")) {
            face.add(line.trim().replace(";", ""));
        }
        Matcher says = Pattern.compile("Ahead of the calls `(\\w+)`(.*) the interface says: (---- .*)\\.").matcher(document);
        while (says.find()) {
            int at = placeOf(face, says.group(1));
            Matcher next = Pattern.compile("`(\\w+)`").matcher(says.group(2));
            for (int i = at + 1; next.find(); i++) {
                Check.due("the place of " + next.group(1), placeOf(face, next.group(1)), i);
            }
            face.add(at, says.group(3));
        }
        return face;
    }

    private static int placeOf(List<String> face, String call) {
        for (int i = 0; i < face.size(); i++) {
            if (face.get(i).contains(" " + call + "(")) {
                return i;
            }
        }
        Check.holds("the document has a call " + call, false);
        return 0;
    }

    /** Rule 1 of LANGUAGE.md. */
    private static void members() {
        Check.holds("public, final", FuelTurns.class.getModifiers() == (Modifier.PUBLIC | Modifier.FINAL));
        for (Field f : FuelTurns.class.getDeclaredFields()) {
            Check.holds(f + " is private", Modifier.isPrivate(f.getModifiers()));
        }
        Constructor<?>[] all = FuelTurns.class.getDeclaredConstructors();
        Check.holds("one constructor", all.length == 1 && Modifier.isPublic(all[0].getModifiers())
            && all[0].getParameterCount() == 0);
        Set<String> face = new HashSet<>();
        for (Method m : FuelTurns.class.getMethods()) {
            face.add(m.getName());
        }
        hasNamesOfItsOwn(FuelTurns.class, face);
        for (Class<?> inside : FuelTurns.class.getDeclaredClasses()) {
            hasNamesOfItsOwn(inside, face);
        }
    }

    private static void hasNamesOfItsOwn(Class<?> type, Set<String> face) {
        for (Method m : type.getDeclaredMethods()) {
            boolean isOfTheFace = type == FuelTurns.class && Modifier.isPublic(m.getModifiers());
            Check.holds(m + " has a name of its own", isOfTheFace || !face.contains(m.getName()));
        }
    }
}
