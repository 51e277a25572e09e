import java.util.Arrays;
import java.util.Random;

/** Runs of random calls, SurgeBasin and the Model side by side, every answer and all that is told compared. */
public final class RandomRunsTest {
    private static final int[] ODD = {Integer.MIN_VALUE, -10001, -10, -2, -1, 4, 6, 7, 15, 16, 17, 31, 60, 61, 100, 101,
        400, 401, 500, 501, 9999, 10000, 10001, Integer.MAX_VALUE};
    private static final String[] PLAIN = {"row", "lay", "at", "tear", "copy", "mean", "text", "put", "fault", "harbour",
        "sea", "about", "set", "ship", "leave", "night", "go", "cell", "rides", "gauge", "keep", "on", "water", "beat",
        "span", "kind", "mark", "work", "back", "count", "findings", "since", "which"};
    private static final String[] DEAR = {"ring", "roll", "quiet", "still", "wakes", "pull", "tight", "where", "tonight",
        "odds", "does", "worse", "least"};

    private static int wrong = 0;
    private final Random dice;
    private final SurgeBasin basin = new SurgeBasin();
    private final Model model = new Model();
    private final StringBuilder trace = new StringBuilder();
    private boolean differs = false;

    private RandomRunsTest(long seed) {
        dice = new Random(seed);
    }

    public static void main(String[] args) {
        int runs = args.length > 0 ? Integer.parseInt(args[0]) : 150;
        long from = args.length > 1 ? Long.parseLong(args[1]) : 0;
        for (int i = 0; i < runs && wrong < 5; i++) {
            new RandomRunsTest(from + i).run(from + i);
        }
        System.out.println(wrong == 0 ? "all random runs are alike" : wrong + " random runs differ");
        if (wrong != 0) {
            System.exit(1);
        }
    }

    private void run(long seed) {
        for (int i = 0; i < 160 && !differs; i++) {
            step();
        }
        if (differs) {
            wrong++;
            System.out.println("seed " + seed + ":\n" + trace);
        }
    }

    private int upTo(int n) {
        return dice.nextInt(n);
    }

    private void step() {
        int what = upTo(100);
        if (what < 12) {
            write(upTo(4), harbourText());
            both("fault", lastText, 0);
            both("harbour", upTo(4), lastText);
        } else if (what < 24) {
            write(upTo(4), seaText());
            both("fault", lastText, 1);
            both("sea", upTo(4), lastText);
        } else if (what < 30) {
            both("ship", upTo(3), upTo(upTo(2) == 0 ? 4 : 16), 1 + upTo(9), 1 + upTo(9), upTo(31), 1 + upTo(300));
        } else if (what < 36) {
            both("night", upTo(4), upTo(4));
            both("go", upTo(60));
        } else if (what < 40) {
            both("gauge", upTo(6), upTo(61), upTo(6));
        } else if (what < 44) {
            floats();
        } else if (what < 48) {
            both("work", upTo(6), upTo(10), upTo(10), upTo(40));
        } else if (what < 62) {
            any(DEAR[upTo(DEAR.length)]);
        } else {
            any(PLAIN[upTo(PLAIN.length)]);
        }
    }

    private int lastText = 0;

    private void write(int t, String s) {
        lastText = t;
        both("text", t, Math.min(100, s.length()));
        for (int i = 0; i < s.length() && i < 100; i++) {
            if (s.charAt(i) != ' ') {
                both("put", t, i, s.charAt(i));
            }
        }
    }

    private String blanks() {
        return upTo(3) == 0 ? " ".repeat(upTo(3)) : "";
    }

    private String harbourText() {
        int n = 3 + upTo(14);
        StringBuilder s = new StringBuilder(blanks() + "c" + n);
        int items = upTo(8);
        for (int i = 0; i < items; i++) {
            s.append(blanks());
            int slip = upTo(40) == 0 ? 3 : 0;
            switch (upTo(4)) {
                case 0 -> s.append("d").append(upTo(n + slip)).append(":").append(slip == 0 ? 1 + upTo(9) : upTo(10));
                case 1 -> s.append("w").append(upTo(n - 1 + slip));
                case 2 -> s.append("m").append(upTo(n + slip)).append(":").append(upTo(10));
                default -> s.append("r").append(upTo(10));
            }
        }
        return spoil(s.append(blanks()), "cdwmr:0123456789 p");
    }

    private String seaText() {
        StringBuilder s = new StringBuilder(blanks());
        int sets = upTo(5) + (upTo(20) == 0 ? 1 : 0);
        for (int i = 0; i < sets; i++) {
            s.append("p").append(2 + upTo(59)).append(":").append(upTo(100)).append(blanks());
        }
        return spoil(s, "p:0123456789 c");
    }

    private String spoil(StringBuilder s, String signs) {
        if (upTo(5) == 0 && s.length() > 0) {
            int at = upTo(s.length());
            switch (upTo(4)) {
                case 0 -> s.setCharAt(at, signs.charAt(upTo(signs.length())));
                case 1 -> s.deleteCharAt(at);
                case 2 -> s.insert(at, signs.charAt(upTo(signs.length())));
                default -> s.setLength(at);
            }
        }
        return s.toString();
    }

    // A float as it might have been: the heights of some night, a little off at times.
    private void floats() {
        int harbour = upTo(4);
        int sea = upTo(4);
        int cell = upTo(5);
        int row = upTo(6);
        both("night", harbour, sea);
        both("gauge", cell, 1 + upTo(60), row);
        if (upTo(2) == 0) {
            both("lay", row, upTo(60), upTo(400) - 200);
        }
        both("since", upTo(4), sea, cell, upTo(4), row);
        both("which", harbour, cell, row);
    }

    private int arity(String name) {
        switch (name) {
            case "water": return 0;
            case "tear": case "mean": case "leave": case "go": case "keep": case "on": case "beat": case "span":
            case "roll": case "wakes": case "back": case "count": case "findings": return 1;
            case "lay": case "put": case "gauge": case "pull": case "tight": case "where": case "tonight": case "does":
            case "least": case "which": return 3;
            case "kind": case "work": return 4;
            case "copy": case "mark": case "since": return 5;
            case "ship": return 6;
            default: return 2;
        }
    }

    private void any(String name) {
        int[] a = new int[arity(name)];
        boolean odd = upTo(5) == 0;
        for (int i = 0; i < a.length; i++) {
            a[i] = odd && upTo(3) == 0 ? ODD[upTo(ODD.length)] : upTo(upTo(4) == 0 ? 10 : 4);
        }
        if (name.equals("least") && !odd) {
            a[2] = upTo(200);
        }
        if (name.equals("does") && !odd) {
            a[2] = upTo(1 << model.works.size());
        }
        if (name.equals("mark") && !odd) {
            a[0] = upTo(3);
            a[4] = 1 + upTo(5);
        }
        if (name.equals("lay") && !odd) {
            a[2] = upTo(2001) - 1000;
        }
        both(name, a);
    }

    private void both(String name, int... a) {
        if (differs) {
            return;
        }
        trace.append(name).append(Arrays.toString(a));
        long want = model.call(name, a);
        long got;
        try {
            got = Calls.call(basin, name, a);
        } catch (RuntimeException e) {
            trace.append(" threw ").append(e).append('\n');
            differs = true;
            return;
        }
        trace.append(" = ").append(got).append('\n');
        same(name, got, want);
        same("asked", basin.asked(), model.asked);
        same("upper", basin.upper(), model.upper);
        same("lower", basin.lower(), model.lower);
        same("finding", basin.finding(), model.finding);
        for (int f = 1; f <= 5; f++) {
            same("findings", basin.findings(f), model.findings[f]);
        }
        same("digest", basin.digest(), model.digest());
    }

    private void same(String what, long got, long want) {
        if (got != want) {
            differs = true;
            trace.append("  ").append(what).append(" answered ").append(got).append(", the model ").append(want).append('\n');
        }
    }
}
