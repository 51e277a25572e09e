import java.lang.reflect.Constructor;
import java.lang.reflect.Field;
import java.lang.reflect.Method;
import java.lang.reflect.Modifier;
import java.nio.file.Files;
import java.nio.file.Path;
import java.util.Arrays;
import java.util.List;
import java.util.Set;
import java.util.TreeSet;
import java.util.regex.Matcher;
import java.util.regex.Pattern;

/** What LANGUAGE.md asks of the file itself, as far as a program can see it; the property "program" is its path. */
public final class RulesTest {
    private static final String FACE = "int row(int,int); int lay(int,int,int); int at(int,int); int tear(int); "
            + "int copy(int,int,int,int,int); int mean(int); int text(int,int); int put(int,int,int); "
            + "int fault(int,boolean); int harbour(int,int); int sea(int,int); int about(int,int); int set(int,int); "
            + "int ship(int,int,int,int,int,int); int leave(int); int night(int,int); int go(int); int cell(int,int); "
            + "int rides(int,int); int gauge(int,int,int); int keep(int); int on(int); int water(); int beat(int); "
            + "int span(int); int ring(int,int); int roll(int); int kind(int,int,int,int); "
            + "int mark(int,int,int,int,int); int quiet(int,int); int still(int,int); int wakes(int); "
            + "int pull(int,int,int); int tight(int,int,int); int where(int,int,int); int tonight(int,int,int); "
            + "int odds(int,int); int work(int,int,int,int); int back(int); int does(int,int,int); int worse(int,int); "
            + "int least(int,int,int); int since(int,int,int,int,int); int which(int,int,int); int asked(); "
            + "long upper(); long lower(); int count(int); int finding(); int findings(int); long digest()";
    private static final String[] FORBIDDEN = {"throw", "throws", "try", "catch", "finally", "synchronized", "assert",
        "import", "package", "->", "::", "var", "native", "volatile", "Object", "Exception", "Error", "protected",
        "double", "float", "hashCode", "toString", "instanceof"};
    private static final Set<String> LIBRARY = Set.of("Math.max", "Math.min", "Math.abs", "System.arraycopy");

    private static int wrong = 0;

    public static void main(String[] args) throws Exception {
        face();
        classes();
        String source = Files.readString(Path.of(System.getProperty("program", "src/main/java/SurgeBasin.java")));
        words(withoutComments(source));
        methods(withoutComments(source));
        System.out.println(wrong == 0 ? "all rules are kept" : wrong + " rules are broken");
        if (wrong != 0) {
            System.exit(1);
        }
    }

    private static void must(boolean holds, String rule) {
        if (!holds) {
            wrong++;
            System.out.println("broken: " + rule);
        }
    }

    private static String signature(Method m) {
        StringBuilder s = new StringBuilder(m.getReturnType().getName() + " " + m.getName() + "(");
        Class<?>[] types = m.getParameterTypes();
        for (int i = 0; i < types.length; i++) {
            s.append(i == 0 ? "" : ",").append(types[i].getName());
        }
        return s.append(")").toString();
    }

    private static void face() throws Exception {
        Class<?> c = SurgeBasin.class;
        must(Modifier.isPublic(c.getModifiers()) && Modifier.isFinal(c.getModifiers()), "1: public and final");
        Set<String> open = new TreeSet<>();
        Set<String> publicNames = new TreeSet<>();
        for (Method m : c.getDeclaredMethods()) {
            if (!Modifier.isPrivate(m.getModifiers())) {
                must(Modifier.isPublic(m.getModifiers()) && !Modifier.isStatic(m.getModifiers()), "1: " + m);
                open.add(signature(m));
                publicNames.add(m.getName());
            }
        }
        must(open.equals(new TreeSet<>(Arrays.asList(FACE.split("; ")))), "1: the methods are " + open);
        for (Class<?> inside : withNested()) {
            for (Method m : inside.getDeclaredMethods()) {
                boolean itself = inside == c && Modifier.isPublic(m.getModifiers());
                must(itself || !publicNames.contains(m.getName()), "1: a name of the face again: " + m);
            }
        }
        for (Constructor<?> k : c.getDeclaredConstructors()) {
            must(Modifier.isPublic(k.getModifiers()) && k.getParameterCount() == 0, "1: " + k);
        }
        String[] names = {"BAD", "FULL", "FINDING", "STATE", "SPENT", "NONE"};
        int[] values = {-1, -2, -3, -4, -6, -9};
        for (int i = 0; i < names.length; i++) {
            must(c.getField(names[i]).getInt(null) == values[i], "1: " + names[i]);
        }
        must(c.getFields().length == names.length, "1: no other public field");
    }

    private static List<Class<?>> withNested() {
        List<Class<?>> all = new java.util.ArrayList<>(Arrays.asList(SurgeBasin.class.getDeclaredClasses()));
        all.add(SurgeBasin.class);
        return all;
    }

    private static void classes() {
        must(withNested().size() <= 12, "11: some twelve classes, not " + withNested().size());
        for (Class<?> c : withNested()) {
            boolean outer = c == SurgeBasin.class;
            must(outer || Modifier.isStatic(c.getModifiers()), "2: static " + c);
            must(outer || c.getDeclaredClasses().length == 0, "2: no class within " + c);
            int fields = 0;
            for (Field f : c.getDeclaredFields()) {
                boolean constant = Modifier.isStatic(f.getModifiers());
                must(!constant || Modifier.isFinal(f.getModifiers()), "5: " + f);
                must(!outer || Modifier.isPrivate(f.getModifiers()) || constant && Modifier.isPublic(f.getModifiers()),
                        "1: " + f);
                fields += constant ? 0 : 1;
            }
            must(fields <= 20, "11: some twenty fields, not " + fields + " in " + c);
            for (Method m : c.getDeclaredMethods()) {
                must(m.getParameterCount() <= 7, "11: seven parameters: " + m);
            }
        }
    }

    private static String withoutComments(String source) {
        return source.replaceAll("(?s)/\\*.*?\\*/", "").replaceAll("//[^\n]*", "");
    }

    private static void words(String code) {
        for (String word : FORBIDDEN) {
            String pattern = Character.isLetter(word.charAt(0)) ? "\\b" + word + "\\b" : Pattern.quote(word);
            must(!Pattern.compile(pattern).matcher(code).find(), "2, 3, 6: " + word);
        }
        Matcher m = Pattern.compile("\\b(Math|System|Integer|Long|Arrays|String|List|java)\\.\\w+").matcher(code);
        while (m.find()) {
            must(LIBRARY.contains(m.group()), "4: " + m.group());
        }
        must(!Pattern.compile("\\bwhile\\s*\\(").matcher(code).find(), "9: loops are counted");
        must(code.chars().allMatch(ch -> ch < 128), "4: signs 1 to 127");
        // what calls make is counted: only fields, constructors and their loops make anything
        Matcher made = Pattern.compile("(?m)^.*\\bnew\\b.*$").matcher(code);
        while (made.find()) {
            String line = made.group();
            must(line.contains("final ") || line.contains("private Letters text") || line.matches("            \\w+\\[i\\] = new .*")
                    || line.matches("            boats = new .*") || line.matches("                boats\\[i\\] = new .*"),
                    "12: made outside of a constructor: " + line.trim());
        }
    }

    private static void methods(String code) {
        String[] lines = code.split("\n", -1);
        int from = -1;
        for (int i = 0; i < lines.length; i++) {
            if (lines[i].matches(" {4}( {4})?[\\w<>\\[\\] ]+\\(.*\\{")) {
                from = i;
            }
            if (from >= 0 && lines[i].matches(" {4}( {4})?\\}")) {
                must(i - from < 60, "11: a short method: " + lines[from].trim());
                from = -1;
            }
        }
    }
}
