import java.lang.reflect.Method;
import java.lang.reflect.Modifier;
import java.nio.file.Files;
import java.nio.file.Path;
import java.util.Map;
import java.util.TreeMap;
import java.util.regex.Matcher;
import java.util.regex.Pattern;

/** What README.md shows is what the class answers, and it names every call with as many numbers as it takes. */
public final class ReadmeTest {
    private static final Pattern CALL = Pattern.compile("x\\.(\\w+)\\(([-\\d, ]*)\\); +// (-?\\d+)\\b.*");
    private static final Pattern TYPED = Pattern.compile("for \\(char c : \"([^\"]*)\"\\.toCharArray\\(\\)\\) x\\.type\\(c\\);");
    private static final Pattern ROW = Pattern.compile("\\| `(\\w+)\\(([\\w, ]*)\\)` \\|.*");
    private static int wrong = 0;

    private static void check(boolean good, String what) {
        if (!good) {
            wrong++;
            System.out.println(what);
        }
    }

    public static void main(String[] args) throws Exception {
        String text = Files.readString(Path.of("README.md"));
        Map<String, Method> calls = new TreeMap<>();
        for (Method m : BandAreas.class.getDeclaredMethods()) {
            if (Modifier.isPublic(m.getModifiers())) {
                calls.put(m.getName(), m);
            }
        }
        example(text, calls);
        table(text, calls);
        System.out.println(wrong == 0 ? "README.md says what is so" : wrong + " things in README.md are not so");
        if (wrong != 0) {
            System.exit(1);
        }
    }

    private static void example(String text, Map<String, Method> calls) throws Exception {
        int from = text.indexOf("```java\n") + 8;
        String[] lines = text.substring(from, text.indexOf("```", from)).split("\n");
        check(lines[0].equals("BandAreas x = new BandAreas();"), "the example begins with " + lines[0]);
        BandAreas x = new BandAreas();
        for (int k = 1; k < lines.length; k++) {
            Matcher typed = TYPED.matcher(lines[k]);
            Matcher call = CALL.matcher(lines[k]);
            if (typed.matches()) {
                for (char c : typed.group(1).toCharArray()) {
                    x.type(c);
                }
            } else if (call.matches() && calls.containsKey(call.group(1))) {
                Object got = calls.get(call.group(1)).invoke(x, numbers(call.group(2)));
                check(got.toString().equals(call.group(3)), lines[k] + " but it is " + got);
            } else {
                check(false, "can not be tried: " + lines[k]);
            }
        }
    }

    private static Object[] numbers(String list) {
        String[] parts = parts(list);
        Object[] numbers = new Object[parts.length];
        for (int k = 0; k < parts.length; k++) {
            numbers[k] = Integer.valueOf(parts[k]);
        }
        return numbers;
    }

    private static String[] parts(String list) {
        return list.isEmpty() ? new String[0] : list.split(", ");
    }

    private static void table(String text, Map<String, Method> calls) {
        Map<String, Integer> has = new TreeMap<>();
        for (String line : text.split("\n")) {
            Matcher row = ROW.matcher(line);
            if (row.matches()) {
                has.put(row.group(1), parts(row.group(2)).length);
            }
        }
        Map<String, Integer> due = new TreeMap<>();
        calls.forEach((name, m) -> due.put(name, m.getParameterCount()));
        check(has.equals(due), "the calls of the table are " + has + ", due are " + due);
    }
}
