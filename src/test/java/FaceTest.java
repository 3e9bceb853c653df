import java.lang.reflect.Constructor;
import java.lang.reflect.Field;
import java.lang.reflect.Method;
import java.lang.reflect.Modifier;
import java.util.Arrays;
import java.util.Set;
import java.util.TreeSet;

/** The class has the document's face and nothing beside it. */
public final class FaceTest {
    private static int wrong = 0;

    private static final String[] FACE = {
        "int box(int, int, int, int, int)", "int mix(int, int, int, int)", "int move(int, int, int, int)",
        "int grow(int, int, int)", "int flip(int, int, int)", "int rest(int, int)", "int part(int, int, int, int)",
        "int corner(int, int)", "int round(int)", "int draw(int, int, int)", "int hit(int, int, int)",
        "int of(int, int)", "int span(int, int, int)", "int two(int, int, int)", "int common(int, int)",
        "int across(int, int, int)", "int apart(int, int)", "int type(int)", "int clear()", "int does()",
        "int writing(int, int)", "int mark(int)", "int told(int)", "long digest()"};

    private static void check(boolean good, String what) {
        if (!good) {
            wrong++;
            System.out.println(what);
        }
    }

    public static void main(String[] args) throws Exception {
        face();
        constants();
        System.out.println(wrong == 0 ? "the face is as told" : wrong + " things are not as told");
        if (wrong != 0) {
            System.exit(1);
        }
    }

    private static void face() {
        check(Modifier.isPublic(BandAreas.class.getModifiers()), "the class is not public");
        check(Modifier.isFinal(BandAreas.class.getModifiers()), "the class is not final");
        Set<String> due = new TreeSet<>(Arrays.asList(FACE));
        Set<String> has = new TreeSet<>();
        for (Method m : BandAreas.class.getDeclaredMethods()) {
            String parameters = Arrays.toString(m.getParameterTypes()).replace("[", "(").replace("]", ")");
            boolean isPrivate = Modifier.isPrivate(m.getModifiers());
            check(isPrivate || Modifier.isPublic(m.getModifiers()), "neither public nor private: " + m);
            if (!isPrivate) {
                check(!Modifier.isStatic(m.getModifiers()), "static: " + m);
                has.add(m.getReturnType() + " " + m.getName() + parameters);
            }
        }
        check(due.equals(has), "methods: " + has);
        Constructor<?>[] made = BandAreas.class.getDeclaredConstructors();
        check(made.length == 1 && made[0].getParameterCount() == 0 && Modifier.isPublic(made[0].getModifiers()),
            "constructors: " + Arrays.toString(made));
    }

    private static void constants() throws Exception {
        Set<String> has = new TreeSet<>();
        for (Field f : BandAreas.class.getDeclaredFields()) {
            if (!Modifier.isPrivate(f.getModifiers())) {
                boolean constant = Modifier.isStatic(f.getModifiers()) && f.getType() == int.class;
                has.add(f.getType() + " " + f.getName() + " " + (constant ? f.getInt(null) : "is no constant"));
                check(Modifier.isFinal(f.getModifiers()), "not final: " + f);
            }
        }
        check(has.equals(new TreeSet<>(Arrays.asList("int NONE -201", "int BAD -202", "int NO -203", "int FULL -204"))),
            "constants: " + has);
    }
}
