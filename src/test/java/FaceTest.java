import java.lang.reflect.Constructor;
import java.lang.reflect.Field;
import java.lang.reflect.Method;
import java.lang.reflect.Modifier;
import java.nio.file.Files;
import java.nio.file.Path;
import java.util.Arrays;
import java.util.Set;
import java.util.TreeSet;
import java.util.regex.Matcher;
import java.util.regex.Pattern;

/** The class has the document's face and nothing beside it, and keeps to what LANGUAGE.md leaves. */
public final class FaceTest {
    private static int wrong = 0;

    private static final String[] FACE = {
        "int box(int, int, int, int, int)", "int mix(int, int, int, int)", "int move(int, int, int, int)",
        "int grow(int, int, int)", "int flip(int, int, int)", "int rest(int, int)", "int part(int, int, int, int)",
        "int corner(int, int)", "int round(int)", "int draw(int, int, int)", "int hit(int, int, int)",
        "int of(int, int)", "int span(int, int, int)", "int two(int, int, int)", "int common(int, int)",
        "int across(int, int, int)", "int apart(int, int)", "int type(int)", "int clear()", "int does()",
        "int writing(int, int)", "int mark(int)", "int told(int)", "long digest()"};

    private static void check(boolean good, String what) {
        if (!good) {
            wrong++;
            System.out.println(what);
        }
    }

    public static void main(String[] args) throws Exception {
        face();
        constants();
        nested();
        source();
        System.out.println(wrong == 0 ? "the face is as told" : wrong + " things are not as told");
        if (wrong != 0) {
            System.exit(1);
        }
    }

    private static void face() {
        check(Modifier.isPublic(BandAreas.class.getModifiers()), "the class is not public");
        check(Modifier.isFinal(BandAreas.class.getModifiers()), "the class is not final");
        Set<String> due = new TreeSet<>(Arrays.asList(FACE));
        Set<String> has = new TreeSet<>();
        for (Method m : BandAreas.class.getDeclaredMethods()) {
            String parameters = Arrays.toString(m.getParameterTypes()).replace("[", "(").replace("]", ")");
            boolean isPrivate = Modifier.isPrivate(m.getModifiers());
            check(isPrivate || Modifier.isPublic(m.getModifiers()), "neither public nor private: " + m);
            if (!isPrivate) {
                check(!Modifier.isStatic(m.getModifiers()), "static: " + m);
                has.add(m.getReturnType() + " " + m.getName() + parameters);
            }
        }
        check(due.equals(has), "methods: " + has);
        Constructor<?>[] made = BandAreas.class.getDeclaredConstructors();
        check(made.length == 1 && made[0].getParameterCount() == 0 && Modifier.isPublic(made[0].getModifiers()),
            "constructors: " + Arrays.toString(made));
    }

    private static void constants() throws Exception {
        Set<String> has = new TreeSet<>();
        for (Field f : BandAreas.class.getDeclaredFields()) {
            if (!Modifier.isPrivate(f.getModifiers())) {
                has.add(f.getType() + " " + f.getName() + " " + f.getInt(null));
            }
            check(!Modifier.isStatic(f.getModifiers()) || Modifier.isFinal(f.getModifiers()), "not final: " + f);
        }
        check(has.equals(new TreeSet<>(Arrays.asList("int NONE -201", "int BAD -202", "int NO -203", "int FULL -204"))),
            "constants: " + has);
    }

    private static void nested() {
        Set<String> names = new TreeSet<>();
        for (String row : FACE) {
            names.add(row.substring(row.indexOf(' ') + 1, row.indexOf('(')));
        }
        Class<?>[] inside = BandAreas.class.getDeclaredClasses();
        check(inside.length <= 12, "too many classes");
        for (Class<?> c : inside) {
            check(Modifier.isStatic(c.getModifiers()) && !Modifier.isPublic(c.getModifiers()), "not as told: " + c);
            for (Method m : c.getDeclaredMethods()) {
                check(!names.contains(m.getName()), "bears a public one's name: " + m);
                check(m.getParameterCount() <= 7, "too many parameters: " + m);
            }
        }
    }

    private static void source() throws Exception {
        String path = System.getenv("BANDAREAS_SOURCE");
        String text = Files.readString(Path.of(path == null ? "src/main/java/BandAreas.java" : path));
        String code = text.replaceAll("(?s)/\\*.*?\\*/", "").replaceAll("//[^\n]*", "");
        Matcher m = Pattern.compile(
            "\\b(throw|throws|try|catch|synchronized|assert|package|hashCode|toString|Random|Thread|record)\\b|->|::|Exact\\b")
            .matcher(code);
        while (m.find()) {
            check(false, "ruled out: " + m.group());
        }
        m = Pattern.compile("import ([^;]*);").matcher(code);
        while (m.find()) {
            check(m.group(1).equals("java.util.Arrays"), "import: " + m.group(1));
        }
        check(code.chars().allMatch(c -> c < 128), "signs beyond 127");
    }
}
