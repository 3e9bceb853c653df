import java.io.DataInputStream;
import java.io.IOException;
import java.io.InputStream;
import java.lang.reflect.Field;
import java.lang.reflect.Method;
import java.lang.reflect.Modifier;
import java.nio.file.Files;
import java.nio.file.Path;
import java.util.ArrayList;
import java.util.Arrays;
import java.util.List;
import java.util.Set;
import java.util.TreeSet;
import java.util.regex.Matcher;
import java.util.regex.Pattern;

/** The class keeps to LANGUAGE.md, as far as it can be seen from its source and from what javac makes of it. */
public final class LanguageTest {
    /** All of the library that the class calls; rule 4 leaves more, which may be put down here when it is used. */
    private static final Set<String> LIBRARY = Set.of("java/lang/Object.<init>", "java/lang/Long.bitCount",
        "java/lang/Math.abs", "java/lang/Math.min", "java/lang/Math.max", "java/lang/Math.floorDiv",
        "java/lang/String.charAt", "java/lang/System.arraycopy", "java/util/Arrays.fill");
    private static final Set<Class<?>> CONSTANTS = Set.of(int.class, long.class, boolean.class, char.class, String.class);
    private static final int MOST_CLASSES = 12, MOST_FIELDS = 20, MOST_LINES = 60, MOST_PARAMETERS = 7;
    /** Kinds of constants in a class file. */
    private static final int UTF8 = 1, LONG = 5, DOUBLE = 6, CLASS = 7, STRING = 8, FIELD = 9, METHOD = 10,
        OF_INTERFACE = 11, NAME_AND_TYPE = 12, HANDLE = 15, METHOD_TYPE = 16, DYNAMIC = 17, INVOKE_DYNAMIC = 18;

    private static int wrong = 0;

    private static void check(boolean good, String what) {
        if (!good) {
            wrong++;
            System.out.println(what);
        }
    }

    public static void main(String[] args) throws Exception {
        List<Class<?>> all = new ArrayList<>(Arrays.asList(BandAreas.class.getDeclaredClasses()));
        check(all.size() <= MOST_CLASSES, "rule 11: too many classes");
        for (Class<?> inside : all) {
            int m = inside.getModifiers();
            check(Modifier.isStatic(m) && !Modifier.isPublic(m) && !Modifier.isProtected(m), "rule 1: " + inside);
        }
        all.add(BandAreas.class);
        for (Class<?> c : all) {
            names(c);
            fields(c);
            library(c);
        }
        source();
        System.out.println(wrong == 0 ? "the language is kept to" : wrong + " things are not of the language");
        if (wrong != 0) {
            System.exit(1);
        }
    }

    private static void names(Class<?> c) {
        Set<String> face = new TreeSet<>();
        for (Method m : BandAreas.class.getDeclaredMethods()) {
            if (Modifier.isPublic(m.getModifiers())) {
                face.add(m.getName());
            }
        }
        for (Method m : c.getDeclaredMethods()) {
            boolean ofTheFace = c == BandAreas.class && Modifier.isPublic(m.getModifiers());
            check(ofTheFace || !face.contains(m.getName()), "rule 1: bears a public one's name: " + m);
            check(m.getParameterCount() <= MOST_PARAMETERS, "rule 11: too many parameters: " + m);
        }
    }

    private static void fields(Class<?> c) {
        int own = 0;
        for (Field f : c.getDeclaredFields()) {
            if (Modifier.isStatic(f.getModifiers())) {
                check(Modifier.isFinal(f.getModifiers()) && CONSTANTS.contains(f.getType()), "rule 5: " + f);
            } else {
                own++;
            }
        }
        check(own <= MOST_FIELDS, "rule 11: too many fields: " + c);
    }

    /** Rules 2 and 4, by the class file: which methods of others it calls, and no lambda or joined text. */
    private static void library(Class<?> c) throws IOException {
        try (InputStream file = c.getResourceAsStream(c.getName() + ".class");
             DataInputStream in = new DataInputStream(file)) {
            in.readLong();
            int many = in.readUnsignedShort();
            String[] text = new String[many];
            int[] first = new int[many];
            int[] second = new int[many];
            List<Integer> methods = new ArrayList<>();
            for (int k = 1; k < many; k++) {
                int kind = in.readUnsignedByte();
                switch (kind) {
                    case UTF8: text[k] = in.readUTF(); break;
                    case LONG: case DOUBLE: in.readLong(); k++; break;
                    case CLASS: case STRING: case METHOD_TYPE: first[k] = in.readUnsignedShort(); break;
                    case HANDLE: in.readUnsignedByte(); in.readUnsignedShort(); break;
                    case FIELD: case METHOD: case OF_INTERFACE: case NAME_AND_TYPE: case DYNAMIC: case INVOKE_DYNAMIC:
                        first[k] = in.readUnsignedShort();
                        second[k] = in.readUnsignedShort();
                        check(kind != DYNAMIC && kind != INVOKE_DYNAMIC, "a lambda, or a text joined by +: " + c);
                        if (kind == METHOD || kind == OF_INTERFACE) {
                            methods.add(k);
                        }
                        break;
                    default: in.readInt(); break;
                }
            }
            for (int k : methods) {
                String owner = text[first[first[k]]];
                String called = owner + "." + text[first[second[k]]];
                boolean own = owner.equals("BandAreas") || owner.startsWith("BandAreas$");
                check(own || LIBRARY.contains(called), "rule 4: " + c + " calls " + called);
            }
        }
    }

    private static void source() throws IOException {
        String path = System.getenv("BANDAREAS_SOURCE");
        String text = Files.readString(Path.of(path == null ? "src/main/java/BandAreas.java" : path));
        String code = text.replaceAll("(?s)/\\*.*?\\*/", "").replaceAll("//[^\n]*", "");
        Matcher m = Pattern.compile("\\b(throw|throws|try|catch|synchronized|assert|package)\\b|->|::|\\bstatic \\{").matcher(code);
        while (m.find()) {
            check(false, "ruled out: " + m.group());
        }
        m = Pattern.compile("import ([^;]*);").matcher(code);
        while (m.find()) {
            check(m.group(1).equals("java.util.Arrays"), "rule 4: import " + m.group(1));
        }
        check(code.chars().allMatch(c -> c < 128), "rule 4: signs beyond 127");
        lengths(text);
    }

    /** Methods are known by how far they are set in: 4 blanks, in a class inside 8. */
    private static void lengths(String text) {
        String[] lines = text.split("\n");
        String open = null;
        int from = 0;
        for (int k = 0; k < lines.length; k++) {
            if (open == null && lines[k].matches("( {4}| {8})\\w[^;=]*\\) \\{") && !lines[k].contains(" class ")) {
                open = lines[k].substring(0, lines[k].length() - lines[k].stripLeading().length());
                from = k;
            } else if (open != null && lines[k].equals(open + "}")) {
                check(k - from + 1 <= MOST_LINES, "rule 11: too long: " + lines[from].strip());
                open = null;
            }
        }
        check(open == null, "a method has no end: line " + (from + 1));
    }
}
