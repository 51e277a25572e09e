import java.lang.reflect.Field;
import java.lang.reflect.Method;
import java.lang.reflect.Modifier;
import java.nio.file.Files;
import java.nio.file.Path;
import java.util.Map;
import java.util.TreeMap;
import java.util.regex.Matcher;
import java.util.regex.Pattern;

/** README.md is held to what it says of the class; the property "program" is the path of the class. */
public final class ReadmeTest {
    private static final Pattern ROW = Pattern.compile("(?m)^\\| `(\\w+)\\(([^)]*)\\)` \\|");
    private static final Pattern WRITTEN = Pattern.compile("^write\\(x, (\\d+), \"([^\"]*)\"\\);.*");
    private static final Pattern CALLED = Pattern.compile("^x\\.(\\w+)\\(([^)]*)\\);\\s+// (-?\\d+)(:.*)?$");

    private static int wrong = 0;

    public static void main(String[] args) throws Exception {
        Path program = Path.of(System.getProperty("program", "src/main/java/SurgeBasin.java")).toAbsolutePath();
        String readme = Files.readString(program.resolve("../../../../README.md").normalize());
        calls(readme);
        constants(readme);
        example(readme);
        must(readme.contains("`.ci/run`"), "how the tests are run");
        System.out.println(wrong == 0 ? "the page holds" : wrong + " things on the page do not hold");
        if (wrong != 0) {
            System.exit(1);
        }
    }

    private static void must(boolean holds, String what) {
        if (!holds) {
            wrong++;
            System.out.println("README.md: " + what);
        }
    }

    private static void calls(String readme) {
        Map<String, Integer> onPage = new TreeMap<>();
        Matcher m = ROW.matcher(readme);
        while (m.find()) {
            Integer before = onPage.put(m.group(1), numberOf(m.group(2)));
            must(before == null, m.group(1) + "() stands there twice");
        }
        Map<String, Integer> face = new TreeMap<>();
        for (Method method : SurgeBasin.class.getDeclaredMethods()) {
            if (Modifier.isPublic(method.getModifiers())) {
                face.put(method.getName(), method.getParameterCount());
            }
        }
        must(onPage.equals(face), "the calls with their number of parameters are " + face + ", not " + onPage);
    }

    private static int numberOf(String parameters) {
        return parameters.isEmpty() ? 0 : parameters.split(", ").length;
    }

    private static void constants(String readme) throws Exception {
        for (Field field : SurgeBasin.class.getFields()) {
            String value = Integer.toString(field.getInt(null));
            must(readme.contains("| " + value + " | `" + field.getName() + "` |")
                    || readme.contains(field.getName() + " (" + value + ")"), field.getName() + " is " + value);
        }
        String[] findings = {"NOTHING", "BEYOND", "UNLIKE", "NOUGHT", "SIZE"};
        for (int i = 0; i < findings.length; i++) {
            must(readme.contains("| " + (i + 1) + " | " + findings[i] + " |"), "FINDING " + (i + 1));
        }
    }

    private static void example(String readme) {
        int from = readme.indexOf("SurgeBasin x = new SurgeBasin();");
        int to = from < 0 ? -1 : readme.indexOf("```", from);
        must(to >= 0, "no example");
        if (to < 0) {
            return;
        }
        SurgeBasin x = new SurgeBasin();
        int held = 0;
        for (String line : readme.substring(from, to).split("\n")) {
            held += follow(x, line) ? 1 : 0;
        }
        must(held >= 30, "the example tells only " + held + " answers");
    }

    private static boolean follow(SurgeBasin x, String line) {
        Matcher written = WRITTEN.matcher(line);
        if (written.matches()) {
            write(x, Integer.parseInt(written.group(1)), written.group(2));
            return false;
        }
        Matcher called = CALLED.matcher(line);
        if (!called.matches()) {
            must(line.isEmpty() || line.startsWith("SurgeBasin x"), "a line that can't be followed: " + line);
            return false;
        }
        long got = Calls.call(x, called.group(1), numbers(called.group(2)));
        must(got == Long.parseLong(called.group(3)), line + " answered " + got);
        return true;
    }

    private static int[] numbers(String parameters) {
        int[] all = new int[numberOf(parameters)];
        String[] each = parameters.split(", ");
        for (int i = 0; i < all.length; i++) {
            all[i] = each[i].equals("true") ? 1 : each[i].equals("false") ? 0 : Integer.parseInt(each[i]);
        }
        return all;
    }

    private static void write(SurgeBasin x, int t, String s) {
        x.text(t, s.length());
        for (int i = 0; i < s.length(); i++) {
            x.put(t, i, s.charAt(i));
        }
    }
}
