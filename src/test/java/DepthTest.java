import java.io.PrintWriter;
import java.io.StringWriter;
import java.util.ArrayList;
import java.util.HashMap;
import java.util.List;
import java.util.Map;
import java.util.Optional;
import java.util.TreeSet;
import java.util.regex.Matcher;
import java.util.regex.Pattern;
import java.util.spi.ToolProvider;

/** Rules 8 and 11 of LANGUAGE.md, by what the compiled class calls: eight deep at most, and nothing calls itself. */
public final class DepthTest {
    private static final int MOST = 8;
    private static final Pattern CLASS = Pattern.compile("^[a-z ]*class (SurgeBasin[\\w$]*) .*\\{");
    private static final Pattern METHOD = Pattern.compile("^  .*?([\\w$.]+)\\(.*\\);");
    private static final Pattern CALL = Pattern.compile("^ +\\d+: invoke\\w+ .*// (?:Interface)?Method (.*)$");

    private final Map<String, TreeSet<String>> calls = new HashMap<>();
    private final Map<String, List<String>> deepest = new HashMap<>();
    private final List<String> open = new ArrayList<>();
    private boolean itself = false;

    public static void main(String[] args) {
        Optional<ToolProvider> javap = ToolProvider.findFirst("javap");
        if (javap.isEmpty()) {
            System.out.println("no javap here: not looked at");
            return;
        }
        DepthTest test = new DepthTest();
        test.read(printed(javap.get()));
        List<String> longest = new ArrayList<>();
        for (String method : test.calls.keySet()) {
            List<String> chain = test.chainFrom(method);
            longest = chain.size() > longest.size() ? chain : longest;
        }
        boolean seen = test.calls.size() > 100 && longest.size() > 4;
        System.out.println(test.calls.size() + " methods, " + longest.size() + " deep: " + longest);
        if (!seen || test.itself || longest.size() > MOST) {
            System.out.println(test.itself ? "one calls itself" : seen ? "that is too deep" : "that can't be all");
            System.exit(1);
        }
    }

    private static String printed(ToolProvider javap) {
        List<String> options = new ArrayList<>(List.of("-c", "-p", "-s", "-cp", System.getProperty("java.class.path")));
        options.add("SurgeBasin");
        for (Class<?> inside : SurgeBasin.class.getDeclaredClasses()) {
            options.add(inside.getName());
        }
        StringWriter out = new StringWriter();
        PrintWriter writer = new PrintWriter(out);
        javap.run(writer, writer, options.toArray(new String[0]));
        return out.toString();
    }

    private void read(String printed) {
        String owner = "";
        String name = "";
        TreeSet<String> calledHere = new TreeSet<>();
        for (String line : printed.split("\\R")) {
            Matcher c = CLASS.matcher(line);
            Matcher m = METHOD.matcher(line);
            Matcher called = CALL.matcher(line);
            if (c.matches()) {
                owner = c.group(1);
            } else if (m.matches()) {
                name = m.group(1).startsWith("SurgeBasin") ? "\"<init>\"" : m.group(1);
            } else if (line.startsWith("    descriptor: (")) {
                calledHere = new TreeSet<>();
                calls.put(owner + "." + name + ":" + line.substring("    descriptor: ".length()), calledHere);
            } else if (called.matches()) {
                String whole = called.group(1);
                int end = whole.indexOf(':');
                calledHere.add(end >= 0 && whole.substring(0, end).contains(".") ? whole : owner + "." + whole);
            }
        }
    }

    private List<String> chainFrom(String method) {
        List<String> known = deepest.get(method);
        if (known != null) {
            return known;
        }
        List<String> chain = new ArrayList<>();
        if (open.contains(method)) {
            itself = true;
            return chain;
        }
        open.add(method);
        for (String called : calls.getOrDefault(method, new TreeSet<>())) {
            List<String> below = chainFrom(called);
            chain = below.size() > chain.size() ? below : chain;
        }
        open.remove(method);
        List<String> whole = new ArrayList<>();
        whole.add(method);
        whole.addAll(chain);
        deepest.put(method, whole);
        return whole;
    }
}
