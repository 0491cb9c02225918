import java.io.IOException;
import java.lang.reflect.Constructor;
import java.lang.reflect.Field;
import java.lang.reflect.Method;
import java.lang.reflect.Modifier;
import java.nio.file.Files;
import java.nio.file.Path;
import java.util.Arrays;
import java.util.HashSet;
import java.util.Set;
import java.util.TreeSet;
import java.util.regex.Matcher;
import java.util.regex.Pattern;

/** The public face is the document's, and the file keeps to those rules of LANGUAGE.md that can be looked up. */
public final class FaceTest {
    private static final String FACE = "int plan(int,int);int move(int);int may(int);int days(int);int runs(int);"
        + "long thing(int);int warn(int,int,int);int of(int,int);int as(int,int);int struck(int,int);"
        + "int look(int,int,boolean);int think(int,int,boolean);int danger(int,int);int safest(int);int open();"
        + "int feed(int,int);int wipe();int rule();int drift();int says(int);long best(int,int);int turn(int,int);"
        + "long rest(int);int home(int,int);long know(int,int,int);int life(int,int);int lives(int,int,int);"
        + "int rests(int);int both(int,int);int swarm(int,int,int,int);int sheet(int,int,int);"
        + "long write(int,int,long);int copy(int,int,int,int,int);int turns(int);int read(int);int image();"
        + "int undo();int tear();int count(int);int status(int)";

    private FaceTest() {
    }

    public static void main(String[] args) throws IOException {
        methods();
        members();
        nested();
        words(Files.readString(Path.of("src/main/java/FuelTurns.java")));
        Check.end();
    }

    private static String told(Method m) {
        StringBuilder text = new StringBuilder(m.getReturnType() + " " + m.getName() + "(");
        for (Class<?> type : m.getParameterTypes()) {
            text.append(text.toString().endsWith("(") ? "" : ",").append(type);
        }
        return text + ")";
    }

    private static void methods() {
        Set<String> want = new TreeSet<>(Arrays.asList(FACE.split(";")));
        Set<String> got = new TreeSet<>();
        for (Method m : FuelTurns.class.getDeclaredMethods()) {
            if (!Modifier.isPrivate(m.getModifiers())) {
                got.add(told(m));
                Check.holds(m + " is public alone", m.getModifiers() == Modifier.PUBLIC);
            }
        }
        if (!got.equals(want)) {
            System.out.println(got);
        }
        Check.holds("the face", got.equals(want));
    }

    private static void members() {
        Check.holds("public, final", FuelTurns.class.getModifiers() == (Modifier.PUBLIC | Modifier.FINAL));
        for (Field f : FuelTurns.class.getDeclaredFields()) {
            Check.holds(f + " is private", Modifier.isPrivate(f.getModifiers()));
        }
        Constructor<?>[] all = FuelTurns.class.getDeclaredConstructors();
        Check.holds("one constructor", all.length == 1 && Modifier.isPublic(all[0].getModifiers())
            && all[0].getParameterCount() == 0);
    }

    private static void nested() {
        Set<String> face = new HashSet<>();
        for (Method m : FuelTurns.class.getMethods()) {
            face.add(m.getName());
        }
        Class<?>[] classes = FuelTurns.class.getDeclaredClasses();
        Check.holds("at most twelve classes", classes.length < 12);
        for (Class<?> c : classes) {
            Check.holds(c + " is static", Modifier.isStatic(c.getModifiers()));
            for (Method m : c.getDeclaredMethods()) {
                Check.holds(m + " has a name of its own", !face.contains(m.getName()));
                Check.holds(m + " has few parameters", m.getParameterCount() <= 7);
            }
            int fields = 0;
            for (Field f : c.getDeclaredFields()) {
                fields += Modifier.isStatic(f.getModifiers()) ? 0 : 1;
                Check.holds(f + ": static ones are final", !Modifier.isStatic(f.getModifiers())
                    || Modifier.isFinal(f.getModifiers()));
            }
            Check.holds(c + " has some twenty fields", fields <= 20);
        }
    }

    private static void words(String file) {
        String code = file.replaceAll("(?s)/\\*.*?\\*/", "").replaceAll("//[^\n]*", "");
        for (String word : ("package import throw throws try catch finally synchronized assert native volatile transient "
            + "protected strictfp Object System.out Thread Random Exception Error").split(" ")) {
            Check.holds("no " + word, !Pattern.compile("\\b" + Pattern.quote(word) + "\\b").matcher(code).find());
        }
        Check.holds("no lambda or method reference", !code.contains("->") && !code.contains("::"));
        Matcher library = Pattern.compile("\\b(Math|System|Integer|Long|Arrays|String|StringBuilder)\\.(\\w+)").matcher(code);
        Set<String> allowed = new HashSet<>(Arrays.asList("min", "max", "abs", "arraycopy"));
        while (library.find()) {
            Check.holds(library.group(), allowed.contains(library.group(2)));
        }
        Check.holds("signs", file.chars().allMatch(c -> c == '\n' || c >= 32 && c < 127));
        int from = 0;
        for (String line : file.split("\n")) {
            Check.holds("not too long: " + line, line.length() <= 120);
            from++;
        }
        Check.holds("lines", from > 0);
    }
}
