/**
 * A test for each promise of the document, by its number: ordinary inputs, the edges that it names, wrong inputs.
 * The numbers were worked out by hand from the document, stand in its own tests, or are the Model's.
 */
public final class PromisesTest {
    private static final int BAD = -1, FULL = -2, FINDING = -3, STATE = -4, SPENT = -6, NONE = -9;
    private static final int NOTHING = 1, BEYOND = 2, UNLIKE = 3, NOUGHT = 4, SIZE = 5;
    private static final int LOW = Integer.MIN_VALUE, HIGH = Integer.MAX_VALUE;

    private static int wrong = 0;
    private static int promise = 0;
    private static SurgeBasin x = new SurgeBasin();

    public static void main(String[] args) {
        newObject();
        rows();
        texts();
        faultsOfHarbours();
        faultsOfSeas();
        harboursAndSeas();
        ships();
        nights();
        floatsAndKept();
        beats();
        kinds();
        waking();
        ships4();
        tonightAndOdds();
        works();
        worseAndLeast();
        sinceAndWhich();
        told();
        digests();
        System.out.println(wrong == 0 ? "all promises hold" : wrong + " answers are not as due");
        if (wrong != 0) {
            System.exit(1);
        }
    }

    // ---- helpers

    private static void begin(int number) {
        promise = number;
        x = new SurgeBasin();
    }

    private static void due(String what, long got, long want) {
        if (got != want) {
            wrong++;
            System.out.println("promise " + promise + ": " + what + " answered " + got + ", due is " + want);
        }
    }

    /** The call answered a FINDING, and it was this one, told once more. */
    private static void finds(int before, String what, long got, int finding) {
        due(what, got, FINDING);
        due(what + ", finding()", x.finding(), finding);
        due(what + ", findings()", x.findings(finding), before + 1);
    }

    private static void tells(String what, long got, long answer, long asked) {
        due(what, got, answer);
        due(what + ", asked()", x.asked(), asked);
    }

    private static void tellsFraction(String what, long got, long answer, long upper, long lower) {
        due(what, got, answer);
        due(what + ", upper()", x.upper(), upper);
        due(what + ", lower()", x.lower(), lower);
    }

    private static int found(int f) {
        return x.findings(f);
    }

    private static void write(int t, String s) {
        x.text(t, s.length());
        for (int i = 0; i < s.length(); i++) {
            x.put(t, i, s.charAt(i));
        }
    }

    private static void harbour(int k, String s) {
        write(3, s);
        if (x.harbour(k, 3) < 0) {
            due("harbour " + s, -1, 0);
        }
    }

    private static void sea(int k, String s) {
        write(3, s);
        if (x.sea(k, 3) < 0) {
            due("sea " + s, -1, 0);
        }
    }

    private static void row(int r, int... v) {
        x.row(r, v.length);
        for (int i = 0; i < v.length; i++) {
            x.lay(r, i, v[i]);
        }
    }

    private static void holds(String what, int r, int... v) {
        for (int i = 0; i < v.length; i++) {
            tells(what + " place " + i, x.at(r, i), 1, v[i]);
        }
        due(what + " behind the last place", x.at(r, v.length), FINDING);
    }

    // ---- the promises

    private static void newObject() {
        begin(1);
        for (int i = 0; i < 8; i++) {
            due("count(" + i + ")", x.count(i), 0);
        }
        due("asked()", x.asked(), 0);
        due("upper()", x.upper(), 0);
        due("lower()", x.lower(), 1);
        due("finding()", x.finding(), 0);
        for (int f = 1; f <= 5; f++) {
            due("findings(" + f + ")", x.findings(f), 0);
        }
        for (int k = 0; k < 4; k++) {
            finds(found(NOTHING), "about()", x.about(k, 0), NOTHING);
            finds(found(NOTHING), "set()", x.set(k, 0), NOTHING);
            finds(found(NOTHING), "put()", x.put(k, 0, 0), NOTHING);
        }
        for (int k = 0; k < 6; k++) {
            finds(found(NOTHING), "at()", x.at(k, 0), NOTHING);
        }
        due("go(0)", x.go(0), STATE);
        due("back(0)", x.back(0), 0);
    }

    private static void rows() {
        begin(2);
        due("row(0, 60)", x.row(0, 60), 60);
        due("row(5, 0)", x.row(5, 0), 0);
        due("row(0, 61)", x.row(0, 61), BAD);
        due("row(-1, 1)", x.row(-1, 1), BAD);
        due("row(6, -1)", x.row(6, -1), BAD);
        finds(0, "row(0, -1)", x.row(0, -1), SIZE);
        finds(1, "row(0, LOW)", x.row(0, LOW), SIZE);
        tells("a refused row() leaves the ROW", x.at(0, 59), 1, 0);
        x.lay(0, 1, 7);
        due("row(0, 2) anew", x.row(0, 2), 2);
        holds("anew", 0, 0, 0);

        begin(3);
        finds(0, "lay() of none", x.lay(0, 0, 1), NOTHING);
        x.row(0, 2);
        tells("lay(0, 1, 5)", x.lay(0, 1, 5), 1, 0);
        tells("lay(0, 1, LOW)", x.lay(0, 1, LOW), 1, 5);
        tells("lay(0, 1, 0)", x.lay(0, 1, 0), 1, LOW);
        due("lay(6, 0, 0)", x.lay(6, 0, 0), BAD);
        due("lay(-1, 0, 0)", x.lay(-1, 0, 0), BAD);
        finds(0, "lay(0, 2, 1)", x.lay(0, 2, 1), BEYOND);
        finds(1, "lay(0, -1, 1)", x.lay(0, -1, 1), BEYOND);
        due("asked() stays", x.asked(), LOW);

        begin(4);
        row(4, 3, -8);
        tells("at(4, 0)", x.at(4, 0), 1, 3);
        tells("at(4, 1)", x.at(4, 1), 1, -8);
        due("at(6, 0)", x.at(6, 0), BAD);
        finds(0, "at(3, 0)", x.at(3, 0), NOTHING);
        finds(0, "at(4, 2)", x.at(4, 2), BEYOND);
        finds(1, "at(4, LOW)", x.at(4, LOW), BEYOND);

        begin(5);
        x.row(2, 3);
        due("tear(2)", x.tear(2), 1);
        finds(0, "tear(2) again", x.tear(2), NOTHING);
        finds(1, "at() of a torn one", x.at(2, 0), NOTHING);
        due("tear(6)", x.tear(6), BAD);
        due("tear(-1)", x.tear(-1), BAD);

        copies();

        begin(7);
        row(0, 3, 4);
        tells("mean of 3, 4", x.mean(0), 1, 3);
        row(0, 9);
        tells("mean of one", x.mean(0), 1, 9);
        row(0, -3, -4);
        tells("mean of -3, -4", x.mean(0), 1, -3);
        row(0, HIGH, HIGH, HIGH);
        tells("mean of great ones", x.mean(0), 1, HIGH);
        row(0, LOW, LOW);
        tells("mean of low ones", x.mean(0), 1, LOW);
        row(0);
        finds(0, "mean of none", x.mean(0), NOUGHT);
        finds(0, "mean of a missing one", x.mean(1), NOTHING);
        due("mean(6)", x.mean(6), BAD);
        due("asked() stays", x.asked(), LOW);
    }

    private static void copies() {
        begin(6);
        row(0, 1, 2, 3, 4, 5);
        row(1, 9, 9, 9);
        due("copy to another", x.copy(0, 3, 1, 0, 2), 1);
        holds("copied", 1, 4, 5, 9);
        due("copy forward in itself", x.copy(0, 0, 0, 1, 4), 1);
        holds("forward", 0, 1, 1, 2, 3, 4);
        due("copy backward in itself", x.copy(0, 1, 0, 0, 4), 1);
        holds("backward", 0, 1, 2, 3, 4, 4);
        due("copy none behind the end", x.copy(0, 5, 1, 3, 0), 1);
        due("copy(6, ..)", x.copy(6, 0, 0, 0, -1), BAD);
        due("copy(.., 6, ..)", x.copy(0, 0, 6, 0, 1), BAD);
        due("copy(-1, ..)", x.copy(-1, 0, 0, 0, 1), BAD);
        finds(found(SIZE), "fewer than none ahead of a missing ROW", x.copy(5, 0, 0, 0, -1), SIZE);
        finds(found(NOTHING), "from a missing ROW", x.copy(5, -1, 0, 0, 1), NOTHING);
        finds(found(NOTHING), "to a missing ROW", x.copy(0, -1, 5, 0, 1), NOTHING);
        finds(found(BEYOND), "none from below", x.copy(0, -1, 1, 0, 0), BEYOND);
        finds(found(BEYOND), "none from above", x.copy(0, 6, 1, 0, 0), BEYOND);
        finds(found(BEYOND), "none to below", x.copy(0, 0, 1, -1, 0), BEYOND);
        finds(found(BEYOND), "none to above", x.copy(0, 0, 1, 4, 0), BEYOND);
        finds(found(BEYOND), "too many from", x.copy(0, 4, 1, 0, 2), BEYOND);
        finds(found(BEYOND), "too many to", x.copy(0, 0, 1, 2, 2), BEYOND);
        finds(found(BEYOND), "far too many", x.copy(0, 1, 1, 1, HIGH), BEYOND);
        finds(found(BEYOND), "far too far", x.copy(0, HIGH, 1, HIGH, HIGH), BEYOND);
        holds("refused, it stays", 1, 4, 5, 9);
    }

    private static void texts() {
        begin(8);
        due("text(0, 100)", x.text(0, 100), 100);
        due("put at the last one", x.put(0, 99, 65), 1032);
        due("text(0, 101)", x.text(0, 101), BAD);
        due("text(4, 1)", x.text(4, 1), BAD);
        due("text(-1, -1)", x.text(-1, -1), BAD);
        finds(0, "text(0, -1)", x.text(0, -1), SIZE);
        due("refused, it stays", x.put(0, 99, 66), 1065);
        due("anew", x.text(0, 100), 100);
        due("blanks anew", x.put(0, 99, 66), 1032);
        due("text(3, 0)", x.text(3, 0), 0);

        begin(9);
        finds(0, "put() of none", x.put(0, 0, 1), NOTHING);
        x.text(0, 2);
        due("put 200", x.put(0, 1, 200), 1032);
        due("put -129", x.put(0, 1, -129), 944);
        due("put 256", x.put(0, 1, 256), 1127);
        due("put 0", x.put(0, 1, 0), 1000);
        due("put(4, ..)", x.put(4, 0, 0), BAD);
        finds(0, "put(0, 2, 0)", x.put(0, 2, 0), BEYOND);
        finds(1, "put(0, -1, 0)", x.put(0, -1, 0), BEYOND);
    }

    private static void fault(String s, boolean sea, int want) {
        write(0, s);
        due("fault of '" + s + "'", x.fault(0, sea), want);
        due("it changes nothing: " + s, x.count(0) + x.count(1), 0);
        due("told as STATE: " + s, sea ? Math.min(0, x.sea(0, 0)) : Math.min(0, x.harbour(0, 0)), want == NONE ? 0 : STATE);
        if (want == NONE) {
            x = new SurgeBasin();
        }
    }

    private static void faultsOfHarbours() {
        begin(10);
        fault("c3", false, NONE);
        fault("  c16  ", false, NONE);
        fault("c05", false, NONE);
        fault("c16 d15:9w14m15:0r9", false, NONE);
        fault("c5w0w0 w3 d0:1d0:2 m0:9m4:0r0r9", false, NONE);
        fault("c5d04:3w03m00:1", false, NONE);
        fault("", false, 0);
        fault("   ", false, 3);
        fault("c", false, 1);
        fault(" c", false, 2);
        fault("c ", false, 1);
        fault("c2", false, 2);
        fault("c2 ", false, 2);
        fault("c0", false, 2);
        fault("c00", false, 3);
        fault("c17", false, 3);
        fault("c99d", false, 3);
        fault("c1 6", false, 2);
        fault("c123", false, 3);
        fault("c5x", false, 2);
        fault("C5", false, 0);
        fault("d1:2", false, 0);
        fault("r1c5", false, 0);
        fault("c5c5", false, 2);
        fault("c5 c5", false, 3);
        fault("c5p5:5", false, 2);
        fault("c5d", false, 3);
        fault("c5d ", false, 3);
        fault("c5d1", false, 4);
        fault("c5d1 :2", false, 4);
        fault("c5d1:", false, 5);
        fault("c5d1: 2", false, 5);
        fault("c5d1:0", false, 5);
        fault("c5d1:12", false, 6);
        fault("c5d1:a", false, 5);
        fault("c5d5:1", false, 4);
        fault("c5d99:1", false, 5);
        fault("c5d005:1", false, 5);
        fault("c16d150:1", false, 6);
        fault("c5w", false, 3);
        fault("c5w3", false, NONE);
        fault("c5w4", false, 4);
        fault("c16w15", false, 6);
        fault("c5wx", false, 3);
        fault("c5m", false, 3);
        fault("c5m4", false, 4);
        fault("c5m4:", false, 5);
        fault("c5m5:1", false, 4);
        fault("c5m4:0", false, NONE);
        fault("c5m4:x", false, 5);
        fault("c5r", false, 3);
        fault("c5rx", false, 3);
        fault("c5r10", false, 4);
        fault("c5r0", false, NONE);
        write(0, "c5 ");
        x.put(0, 2, 128 + 32);
        due("a byte below 0", x.fault(0, false), 2);
        finds(found(NOTHING), "fault of a missing TEXT", x.fault(1, false), NOTHING);
        due("fault(4, ..)", x.fault(4, false), BAD);
        due("fault(-1, ..)", x.fault(-1, true), BAD);
    }

    private static void faultsOfSeas() {
        begin(10);
        fault("", true, NONE);
        fault("    ", true, NONE);
        fault(" p2:0p60:99 p05:05 p9:9 ", true, NONE);
        fault("x", true, 0);
        fault(" c5", true, 1);
        fault("p", true, 1);
        fault("p ", true, 1);
        fault("p5", true, 2);
        fault("p5:", true, 3);
        fault("p5: 1", true, 3);
        fault("p5 :1", true, 2);
        fault("p1:5", true, 2);
        fault("p0:5", true, 2);
        fault("p61:5", true, 3);
        fault("p600:5", true, 3);
        fault("p5:100", true, 5);
        fault("p5:1x", true, 4);
        fault("p5:1p5:1p5:1p5:1 p5:1", true, 17);
        fault("p5:1p5:1p5:1p5:1p", true, 16);
        fault("p5:1p5:1p5:1p5:1x", true, 16);
    }

    private static void harboursAndSeas() {
        begin(11);
        write(0, "c7 d1:9 d1:8 w2 w5 m2:3 m6:0 r7 r2");
        due("harbour(2, 0)", x.harbour(2, 0), 7);
        due("harbour(4, 0)", x.harbour(4, 0), BAD);
        due("harbour(0, 4)", x.harbour(0, 4), BAD);
        finds(0, "harbour() by a missing TEXT", x.harbour(2, 1), NOTHING);
        x.text(1, 0);
        due("harbour() by a FAULT", x.harbour(2, 1), STATE);
        tells("refused, it stays", x.about(2, 0), 1, 7);
        x.put(0, 1, '8');
        tells("the TEXT may change", x.about(2, 0), 1, 7);
        due("anew", x.harbour(2, 0), 8);
        tells("anew it is another one", x.about(2, 0), 1, 8);

        begin(13);
        harbour(1, "c7 d1:9 d1:8 w2 w5 m2:3 m6:0 r7 r2");
        int[] facts = {7, 6, 0, 2, 36, 4, 8, 4, 4, 4, 4, 4};
        for (int i = 0; i < facts.length; i++) {
            tells("about(1, " + i + ")", x.about(1, i), 1, facts[i]);
        }
        finds(0, "about(1, 12)", x.about(1, 12), BEYOND);
        finds(1, "about(1, 20)", x.about(1, 20), BEYOND);
        due("about(1, 21)", x.about(1, 21), BAD);
        due("about(1, -1)", x.about(1, -1), BAD);
        due("about(4, 0)", x.about(4, 0), BAD);
        finds(0, "about(0, 20)", x.about(0, 20), NOTHING);
        harbour(0, "c16");
        int[] usual = {16, 0, 4, 1, 0};
        for (int i = 0; i < usual.length; i++) {
            tells("if not told: about(0, " + i + ")", x.about(0, i), 1, usual[i]);
        }
        tells("the last depth", x.about(0, 20), 1, 4);

        begin(12);
        write(0, "p7:50p8:99p60:0");
        due("sea(3, 0)", x.sea(3, 0), 3);
        due("sea(4, 0)", x.sea(4, 0), BAD);
        due("sea(0, 4)", x.sea(0, 4), BAD);
        finds(0, "sea() by a missing TEXT", x.sea(0, 1), NOTHING);
        write(1, "p7:5x");
        due("sea() by a FAULT", x.sea(3, 1), STATE);
        tells("refused, it stays", x.set(3, 1), 8, 99);
        x.text(0, 0);
        due("a SEA without SETS", x.sea(3, 0), 0);

        begin(14);
        sea(0, "p7:50 p8:99 p60:0");
        tells("set(0, 0)", x.set(0, 0), 7, 50);
        tells("set(0, 2)", x.set(0, 2), 60, 0);
        finds(0, "set(0, 3)", x.set(0, 3), BEYOND);
        finds(1, "set(0, -1)", x.set(0, -1), BEYOND);
        finds(2, "set(0, HIGH)", x.set(0, HIGH), BEYOND);
        finds(0, "set(1, 0)", x.set(1, 0), NOTHING);
        due("set(4, 0)", x.set(4, 0), BAD);
        due("set(-1, 0)", x.set(-1, 0), BAD);
    }

    private static void ships() {
        begin(15);
        due("the least ship", x.ship(0, 0, 1, 1, 0, 1), 1);
        due("the greatest ship", x.ship(2, 15, 9, 9, 30, 9999), 1);
        due("count(2)", x.count(2), 2);
        long before = x.digest();
        int[][] bad = {{-1, 0, 1, 1, 0, 1}, {3, 0, 1, 1, 0, 1}, {0, -1, 1, 1, 0, 1}, {0, 16, 1, 1, 0, 1},
            {0, 0, 0, 1, 0, 1}, {0, 0, 10, 1, 0, 1}, {0, 0, 1, 0, 0, 1}, {0, 0, 1, 10, 0, 1}, {0, 0, 1, 1, -1, 1},
            {0, 0, 1, 1, 31, 1}, {0, 0, 1, 1, 0, 0}, {0, 0, 1, 1, 0, 10000}};
        for (int i = 0; i < bad.length; i++) {
            int[] b = bad[i];
            due("a bad ship " + i, x.ship(b[0], b[1], b[2], b[3], b[4], b[5]), BAD);
        }
        due("refused, all stays", x.digest(), before);
        due("anew", x.ship(0, 1, 1, 1, 0, 1), 1);
        due("anew she is no more", x.count(2), 2);

        begin(16);
        x.ship(1, 0, 1, 1, 0, 1);
        due("leave(1)", x.leave(1), 1);
        due("leave(1) again", x.leave(1), STATE);
        due("leave(3)", x.leave(3), BAD);
        due("leave(-1)", x.leave(-1), BAD);
        due("count(2)", x.count(2), 0);
    }

    private static void nights() {
        begin(17);
        harbour(0, "c3 m0:8 r0");
        sea(0, "p10:32");
        due("night(0, 0)", x.night(0, 0), 3);
        x.go(5);
        finds(0, "no such HARBOUR", x.night(1, 0), NOTHING);
        finds(1, "no such SEA", x.night(0, 1), NOTHING);
        due("night(4, 0)", x.night(4, 0), BAD);
        due("night(0, -1)", x.night(0, -1), BAD);
        x.ship(2, 3, 1, 1, 0, 1);
        due("a SHIP at no CELL", x.night(0, 0), STATE);
        finds(2, "NOTHING ahead of STATE", x.night(0, 3), NOTHING);
        due("refused, the NIGHT stays", x.count(4), 5);
        x.ship(2, 2, 1, 1, 0, 1);
        due("begun anew", x.night(0, 0), 3);
        due("its SECOND", x.count(4), 0);

        seconds();
        spentNights();

        begin(19);
        due("cell() without a NIGHT", x.cell(0, 0), STATE);
        due("cell(16, 0)", x.cell(16, 0), BAD);
        due("cell(-1, 0)", x.cell(-1, 0), BAD);
        due("cell(0, 3)", x.cell(0, 3), BAD);
        due("cell(0, -1)", x.cell(0, -1), BAD);
        harbour(0, "c3 m0:8 r0");
        sea(0, "p4:32");
        x.night(0, 0);
        finds(0, "cell(3, 0)", x.cell(3, 0), BEYOND);
        tells("RANGE before a SECOND", x.cell(0, 2), 1, 0);
        x.go(1);
        tells("the beginning does not count", x.cell(0, 2), 1, 0);
        x.go(1);
        tells("RANGE of 16, 22", x.cell(0, 2), 1, 6);
        tells("RANGE of 0, 4", x.cell(1, 2), 1, 4);
        // at second 2 the push turns: 22 - 8 = 14, and (-32 - 14) * 8 / 16 = -23
        x.go(1);
        tells("HEIGHT", x.cell(0, 0), 1, -9);
        tells("RANGE of 16, 22, -9", x.cell(0, 2), 1, 31);

        begin(24);
        due("water() without a NIGHT", x.water(), STATE);
        harbour(0, "c3 m0:8 r0");
        sea(0, "p10:32");
        x.night(0, 0);
        tells("water() at first", x.water(), 1, 0);
        x.go(3);
        tells("water() behind three SECONDS", x.water(), 1, 35);
    }

    // c3 m0:8 r0 under p10:32, by hand: heights 16 0 0; 22 4 0; 23 11 1, flows 0 0; 4 0; 8 1.
    private static void seconds() {
        begin(18);
        harbour(0, "c3 m0:8 r0");
        sea(0, "p10:32");
        due("go() without a NIGHT", x.go(1), STATE);
        due("go(-1)", x.go(-1), BAD);
        due("go(401)", x.go(401), BAD);
        x.ship(0, 1, 1, 2, 0, 3);
        x.ship(1, 0, 1, 2, 30, 3);
        x.night(0, 0);
        int[][] heights = {{0, 0, 0}, {16, 0, 0}, {22, 4, 0}, {23, 11, 1}};
        int[][] flows = {{0, 0, 0}, {0, 0, 0}, {4, 0, 0}, {8, 1, 0}};
        int[][] rides = {{0, 0, 0, NONE}, {0, 0, 0, NONE}, {1, 1, 2, NONE}, {3, 2, 6, 2}};
        int[][] slack = {{0, 0, 0, NONE}, {0, 0, 0, NONE}, {1, 1, 0, NONE}, {4, 3, 0, NONE}};
        for (int second = 0; second < 4; second++) {
            promise = 18;
            due("go()", x.go(second == 0 ? 0 : 1), second);
            for (int k = 0; k < 3; k++) {
                promise = 19;
                tells("HEIGHT " + k + " at " + second, x.cell(k, 0), 1, heights[second][k]);
                tells("FLOW " + k + " at " + second, x.cell(k, 1), 1, flows[second][k]);
            }
            for (int what = 0; what < 4; what++) {
                promise = 20;
                tells("rides(0, " + what + ") at " + second, x.rides(0, what), 1, rides[second][what]);
                tells("rides(1, " + what + ") at " + second, x.rides(1, what), 1, slack[second][what]);
            }
        }
        promise = 20;
        due("rides(2, 0)", x.rides(2, 0), STATE);
        due("rides(3, 0)", x.rides(3, 0), BAD);
        due("rides(-1, 0)", x.rides(-1, 0), BAD);
        due("rides(0, 4)", x.rides(0, 4), BAD);
        due("rides(0, -1)", x.rides(0, -1), BAD);
        x.ship(2, 0, 1, 1, 0, 1);
        due("she was missing as it was begun", x.rides(2, 0), STATE);
        asItWasBegun();
        justStrongEnough();
    }

    // A NIGHT goes by what was there when it was begun, whatever comes to be there later.
    private static void asItWasBegun() {
        promise = 17;
        x.leave(0);
        x.ship(1, 2, 9, 9, 0, 1);
        harbour(0, "c16");
        sea(0, "p2:99");
        long second = x.go(1);
        due("its SECOND", second, 4);
        // flows: 8 + (23 - 11) * 4 / 16 = 11, 1 + (11 - 1) * 4 / 16 = 3; 23 - 11 = 12, + (32 - 12) / 2 = 22
        tells("HEIGHT 0", x.cell(0, 0), 1, 22);
        tells("HEIGHT 1", x.cell(1, 0), 1, 19);
        // ship 0: (11 + 3 - 6) / 4 = 2 more, 4; ship 1: 11 / 4 = 2 more, 5
        tells("a SHIP that left", x.rides(0, 0), 1, 7);
        tells("a SHIP that is another one", x.rides(1, 0), 1, 9);
        due("no such CELL of this NIGHT", x.cell(3, 0), FINDING);
    }

    // The first ship above, whose STRAIN is 6 behind second 2.
    private static void justStrongEnough() {
        begin(20);
        harbour(0, "c3 m0:8 r0");
        sea(0, "p10:32");
        x.ship(0, 1, 1, 2, 0, 6);
        x.ship(1, 1, 1, 2, 0, 5);
        x.night(0, 0);
        x.go(3);
        tells("STRAIN is as great as STRENGTH", x.rides(0, 3), 1, NONE);
        tells("STRAIN is above STRENGTH", x.rides(1, 3), 1, 2);
        x.go(1);
        tells("STRAIN of 7 times 2", x.rides(0, 2), 1, 14);
        tells("now it is above", x.rides(0, 3), 1, 3);
        tells("PARTED in the first one", x.rides(1, 3), 1, 2);
    }

    private static void spentNights() {
        begin(18);
        harbour(0, "c3 w0");
        sea(0, "");
        due("rides() without a NIGHT", x.rides(0, 0), STATE);
        x.night(0, 0);
        for (int i = 1; i <= 24; i++) {
            due("go(400)", x.go(400), 400 * i);
        }
        due("go(399)", x.go(399), 9999);
        due("go(2)", x.go(2), SPENT);
        due("go(1)", x.go(1), 10000);
        due("go(0)", x.go(0), 10000);
        due("go(1) behind it", x.go(1), SPENT);
        promise = 21;
        due("gauge(0, 1, 0)", x.gauge(0, 1, 0), SPENT);
        finds(found(BEYOND), "BEYOND ahead of SPENT", x.gauge(3, 1, 0), BEYOND);
        due("refused, no ROW came", x.count(6), 0);
        due("gauge(0, 0, 0)", x.gauge(0, 0, 0), 10000);
    }

    private static void floatsAndKept() {
        begin(21);
        due("gauge() without a NIGHT", x.gauge(0, 1, 0), STATE);
        due("gauge(16, ..)", x.gauge(16, 1, 0), BAD);
        due("gauge(-1, ..)", x.gauge(-1, 1, 0), BAD);
        due("gauge(.., 61, ..)", x.gauge(0, 61, 0), BAD);
        due("gauge(.., -1, ..)", x.gauge(0, -1, 0), BAD);
        due("gauge(.., 6)", x.gauge(0, 1, 6), BAD);
        harbour(0, "c3 m0:8 r0");
        sea(0, "p10:32");
        x.night(0, 0);
        x.go(1);
        finds(0, "gauge(3, ..)", x.gauge(3, 1, 0), BEYOND);
        row(5, 1, 2, 3, 4, 5);
        due("gauge(1, 2, 5)", x.gauge(1, 2, 5), 3);
        holds("gauged", 5, 4, 11);
        due("gauge(1, 0, 5)", x.gauge(1, 0, 5), 3);
        holds("gauged none", 5);

        begin(22);
        due("keep() without a NIGHT", x.keep(0), STATE);
        due("keep(3)", x.keep(3), BAD);
        due("keep(-1)", x.keep(-1), BAD);
        harbour(0, "c3 m0:8 r0");
        sea(0, "p10:32");
        x.ship(0, 1, 1, 2, 0, 3);
        x.night(0, 0);
        x.go(2);
        due("keep(2)", x.keep(2), 2);
        due("count(5)", x.count(5), 1);
        x.go(1);
        tells("the NIGHT goes on", x.rides(0, 0), 1, 3);

        promise = 23;
        due("on(3)", x.on(3), BAD);
        due("on(-1)", x.on(-1), BAD);
        finds(0, "on(0)", x.on(0), NOTHING);
        harbour(1, "c16 m9:9");
        x.leave(0);
        x.night(1, 0);
        due("on(2)", x.on(2), 2);
        due("count(4)", x.count(4), 2);
        tells("HEIGHT as kept", x.cell(0, 0), 1, 22);
        tells("RANGE as kept", x.cell(0, 2), 1, 6);
        tells("her place as kept", x.rides(0, 0), 1, 1);
        tells("PULL as kept", x.rides(0, 2), 1, 2);
        tells("not PARTED as kept", x.rides(0, 3), 1, NONE);
        due("go(1)", x.go(1), 3);
        tells("gone on from", x.rides(0, 3), 1, 2);
        due("on(2) once more", x.on(2), 2);
        tells("what is kept stays", x.rides(0, 0), 1, 1);
        due("keep() over it", x.keep(2), 2);
        due("it is one still", x.count(5), 1);
    }

    private static void beats() {
        begin(25);
        row(0, -1, 0, -5, -5, 5, 5, -1, 1);
        tellsFraction("beat of crossings 1, 4, 7", x.beat(0), 3, 3, 1);
        row(1, -1, 0, 0, -1, -1, 2, -1, 2);
        // crossings at 1, 5, 7
        tellsFraction("beat of crossings 1, 5, 7", x.beat(1), 3, 3, 1);
        row(1, -1, 0, -1, 2, -1, -1, 0);
        // crossings at 1, 3, 6
        tellsFraction("beat of crossings 1, 3, 6", x.beat(1), 3, 5, 2);
        finds(0, "beat(2)", x.beat(2), NOTHING);
        due("beat(6)", x.beat(6), BAD);
        due("beat(-1)", x.beat(-1), BAD);
        row(2, 0, 5, -1, 0, 5);
        finds(0, "one CROSSING", x.beat(2), NOUGHT);
        row(2);
        finds(1, "none", x.beat(2), NOUGHT);
        due("refused, upper() stays", x.upper(), 5);

        promise = 26;
        tells("span of crossings 1, 3, 6", x.span(1), 2, 3);
        tells("span of crossings 1, 4, 7", x.span(0), 3, 3);
        finds(2, "span of none", x.span(2), NOUGHT);
        row(2, -1, 1);
        finds(3, "span of one", x.span(2), NOUGHT);
        finds(1, "span(3)", x.span(3), NOTHING);
        due("span(6)", x.span(6), BAD);
        due("upper() stays", x.upper(), 5);

        begin(27);
        // what stands in the document's own tests
        harbour(0, "c6 d3:7 m0:5 r1");
        harbour(1, "c6 w2 m5:9 r0");
        tellsFraction("ring(0, 0)", x.ring(0, 0), 56, 391, 55);
        tellsFraction("ring(1, 5)", x.ring(1, 5), 50, 395, 49);
        finds(0, "ring(0, 6)", x.ring(0, 6), BEYOND);
        finds(0, "ring(2, 6)", x.ring(2, 6), NOTHING);
        due("ring(0, 16)", x.ring(0, 16), BAD);
        due("ring(0, -1)", x.ring(0, -1), BAD);
        due("ring(4, 0)", x.ring(4, 0), BAD);
        harbour(2, "c3 w0w1 m1:0");
        finds(0, "shut in, it stays 1000", x.ring(2, 0), NOUGHT);
        due("refused, upper() stays", x.upper(), 395);
        due("no NIGHT came", x.count(4), 0);

        promise = 28;
        x.ship(0, 3, 2, 3, 5, 60);
        tellsFraction("roll(0)", x.roll(0), 34, 129, 11);
        due("roll(1)", x.roll(1), STATE);
        due("roll(3)", x.roll(3), BAD);
        due("roll(-1)", x.roll(-1), BAD);
    }

    private static void kinds() {
        begin(29);
        harbour(0, "c6 d3:7 m0:5 r1");
        harbour(1, "c8 m3:2 r2");
        harbour(2, "c3 m1:0 r0");
        harbour(3, "c3 w0w1 m1:0");
        sea(0, "p9:70p25:40");
        sea(2, "p8:20p12:5p13:5p7:5");
        x.ship(0, 15, 2, 3, 5, 60);
        due("a RING that dies", x.kind(0, 0, 0, 99), 5);
        due("a RING that does not", x.kind(0, 2, 0, 0), 1);
        finds(0, "a RING without a BEAT", x.kind(0, 3, 0, 0), NOUGHT);
        // the ring of c8 m3:2 r2 by its mouth beats 395/37, cut 10
        due("9 meets 10", x.kind(1, 0, 0, 1), 4);
        due("25 does not", x.kind(1, 0, 1, 1), 2);
        due("8 meets 10", x.kind(1, 2, 0, 1), 4);
        due("12 meets 10", x.kind(1, 2, 1, 1), 4);
        due("13 does not meet 10", x.kind(1, 2, 2, 1), 2);
        due("7 does not meet 10", x.kind(1, 2, 3, 1), 2);
        due("a basin without a BEAT meets none", x.kind(1, 2, 3, 3), 2);
        due("a ROLL", x.kind(2, 0, -7, 99), 3);
        due("no such SHIP", x.kind(2, 1, 0, 0), STATE);
        due("kind(3, ..)", x.kind(3, 0, 0, 0), BAD);
        due("kind(-1, ..)", x.kind(-1, 0, 0, 0), BAD);
        due("kind(0, 4, ..)", x.kind(0, 4, 0, 0), BAD);
        due("kind(1, 4, ..)", x.kind(1, 4, 0, 0), BAD);
        due("kind(1, .., 4)", x.kind(1, 0, 0, 4), BAD);
        due("kind(2, 3, ..)", x.kind(2, 3, 0, 0), BAD);
        finds(0, "no such SEA", x.kind(1, 1, 9, 0), NOTHING);
        finds(0, "no such CELL", x.kind(0, 0, 6, 0), BEYOND);
        finds(1, "the last number of a CELL", x.kind(0, 0, 15, 0), BEYOND);
        due("a CELL above 15", x.kind(0, 0, 16, 0), BAD);
        due("a CELL below 0", x.kind(0, 0, -1, 0), BAD);
        finds(2, "no such SET", x.kind(1, 0, 2, 0), BEYOND);
        finds(3, "a SET that is none", x.kind(1, 0, LOW, 0), BEYOND);
        finds(4, "a SET far above", x.kind(1, 0, 16, 0), BEYOND);
        marks();
        numbersThatAreNone();
    }

    private static void marks() {
        promise = 30;
        due("a BASIN's, dying", x.mark(0, 0, 0, 0, 1), 7);
        due("a DYING one", x.mark(0, 0, 0, 0, 5), 31);
        due("a BASIN's", x.mark(0, 2, 0, 0, 1), 12);
        finds(0, "it is not DYING", x.mark(0, 2, 0, 0, 5), UNLIKE);
        finds(1, "it is no SET's", x.mark(0, 0, 0, 0, 2), UNLIKE);
        due("a SET's, MET", x.mark(1, 2, 0, 1, 2), 8);
        due("MET, how far below", x.mark(1, 2, 0, 1, 4), 2);
        due("MET, how far above", x.mark(1, 2, 1, 1, 4), 2);
        due("MET, 9 and 10", x.mark(1, 0, 0, 1, 4), 1);
        due("a SET's", x.mark(1, 0, 1, 1, 2), 25);
        finds(2, "it is not MET", x.mark(1, 0, 1, 1, 4), UNLIKE);
        finds(3, "it is no BASIN's", x.mark(1, 0, 1, 1, 1), UNLIKE);
        due("a SHIP's", x.mark(2, 0, 0, 0, 3), 11);
        finds(4, "it is no DYING one", x.mark(2, 0, 0, 0, 5), UNLIKE);
        due("KIND 0", x.mark(0, 0, 0, 0, 0), BAD);
        due("KIND 6", x.mark(0, 0, 0, 0, 6), BAD);
        due("KIND -1", x.mark(0, 0, 0, 0, -1), BAD);
        due("mark(3, ..)", x.mark(3, 0, 0, 0, 1), BAD);
        due("no such SHIP", x.mark(2, 1, 0, 0, 1), STATE);
        finds(found(NOTHING), "no such SEA", x.mark(1, 1, 0, 0, 1), NOTHING);
        finds(found(BEYOND), "no such SET", x.mark(1, 0, 2, 0, 1), BEYOND);
        finds(found(NOUGHT), "NOUGHT ahead of UNLIKE", x.mark(0, 3, 0, 0, 3), NOUGHT);
        dying("c11m1:5r1", 3, 300);
        dying("c12m11:9r7", 11, 1);
        dying("c5d0:5d4:9d2:5d3:5d1:6m1:1r0", 3, 271);
        dying("c13m1:4r1", 8, 277);
        dying("c4m1:1r1", 1, 133);
        harbour(2, "c7d0:6d4:7m0:4r1");
        due("loud behind SECOND 301: not DYING", x.kind(0, 2, 4, 0), 1);
        finds(found(UNLIKE), "loud behind SECOND 301", x.mark(0, 2, 4, 0, 5), UNLIKE);
    }

    // A CELL's numbers are 0 .. 15, and another one is BAD ahead of NOTHING; a SET's are not told, so NOTHING is first.
    private static void numbersThatAreNone() {
        begin(29);
        due("a CELL below 0 of no HARBOUR", x.kind(0, 0, -1, 0), BAD);
        due("a CELL above 15 of no HARBOUR", x.kind(0, 0, 16, 0), BAD);
        due("no FINDING with BAD", x.finding(), 0);
        finds(0, "a CELL 15 of no HARBOUR", x.kind(0, 0, 15, 0), NOTHING);
        finds(1, "a SET that is none of no SEA", x.kind(1, 0, -1, 0), NOTHING);
        begin(30);
        due("a CELL below 0 of no HARBOUR", x.mark(0, 0, -1, 0, 1), BAD);
        due("a CELL above 15 of no HARBOUR", x.mark(0, 0, 16, 0, 1), BAD);
        due("no FINDING with BAD", x.finding(), 0);
        finds(0, "a CELL 15 of no HARBOUR", x.mark(0, 0, 15, 0, 1), NOTHING);
        finds(1, "a SET that is none of no SEA", x.mark(1, 0, -1, 0, 2), NOTHING);
        harbour(0, "c6");
        due("a CELL above 15, ahead of UNLIKE", x.mark(0, 0, 16, 0, 2), BAD);
        finds(0, "no such CELL", x.mark(0, 0, 15, 0, 2), BEYOND);
    }

    // The first is loud just long enough; the third, the fourth are at 100, at -100 among the last HEIGHTS; the last
    // one is 101 when it is loud for the last time.
    private static void dying(String text, int cell, int last) {
        harbour(2, text);
        due(text + " is DYING", x.kind(0, 2, cell, 0), 5);
        due(text + " is last loud", x.mark(0, 2, cell, 0, 5), last);
    }

    private static void waking() {
        begin(31);
        // what stands in the document's own tests
        harbour(0, "c6 d3:7 m0:5 r1");
        harbour(1, "c6 w2 m5:9 r0");
        harbour(2, "c3 m1:0");
        sea(0, "p14:30 p20:50");
        sea(1, "p40:99");
        x.ship(0, 15, 1, 1, 0, 1);
        tells("quiet(0, 0)", x.quiet(0, 0), 196, 2);
        tells("alike ones: the first", x.quiet(2, 0), 0, 0);
        finds(0, "quiet(3, 0)", x.quiet(3, 0), NOTHING);
        finds(1, "quiet(0, 2)", x.quiet(0, 2), NOTHING);
        due("quiet(4, 0)", x.quiet(4, 0), BAD);
        due("quiet(0, 4)", x.quiet(0, 4), BAD);
        due("no NIGHT came", x.water(), STATE);

        promise = 32;
        tells("still(0, 0)", x.still(0, 0), 4, 95);
        // behind the wall nothing moves: cells 0, 1, 2
        tells("alike ones: the first", x.still(1, 0), 0, 0);
        finds(2, "still(3, 0)", x.still(3, 0), NOTHING);
        due("still(-1, 0)", x.still(-1, 0), BAD);
        due("still(0, 4)", x.still(0, 4), BAD);

        promise = 33;
        tells("wakes(0)", x.wakes(0), 1, 287);
        tells("wakes(1)", x.wakes(1), 0, 443);
        tells("alike ones: the first", x.wakes(2), 0, 0);
        finds(3, "wakes(3)", x.wakes(3), NOTHING);
        due("wakes(4)", x.wakes(4), BAD);
        begin(33);
        harbour(0, "c3");
        finds(0, "no SEA", x.wakes(0), NOTHING);
        sea(3, "");
        tells("one SEA, without SETS", x.wakes(0), 3, 0);
    }

    private static void ships4() {
        begin(34);
        harbour(0, "c6 d3:7 m0:5 r1");
        harbour(1, "c3 m1:0 r0");
        sea(0, "p14:30 p20:50");
        x.ship(0, 3, 2, 3, 5, 60);
        x.ship(1, 5, 1, 1, 0, 1);
        tells("pull(0, 0, 0)", x.pull(0, 0, 0), 213, 10);
        x.ship(0, 3, 2, 3, 5, 9999);
        tells("strong lines", x.pull(0, 0, 0), 213, NONE);
        finds(0, "no such CELL", x.pull(0, 1, 0), BEYOND);
        finds(0, "NOTHING ahead of BEYOND", x.pull(0, 2, 0), NOTHING);
        finds(1, "no such SEA", x.pull(0, 1, 1), NOTHING);
        due("STATE ahead of NOTHING", x.pull(2, 2, 0), STATE);
        due("pull(3, ..)", x.pull(3, 0, 0), BAD);
        due("BAD ahead of STATE", x.pull(2, 4, 0), BAD);
        due("pull(.., 4)", x.pull(0, 0, 4), BAD);
        due("no NIGHT came", x.water(), STATE);

        promise = 35;
        tells("tight(0, 0, 0)", x.tight(0, 0, 0), 4, 176);
        finds(1, "no such CELL", x.tight(0, 1, 0), BEYOND);
        finds(2, "no such HARBOUR", x.tight(0, 2, 0), NOTHING);
        due("no such SHIP", x.tight(2, 2, 0), STATE);
        due("tight(-1, ..)", x.tight(-1, 0, 0), BAD);
        due("tight(.., 4)", x.tight(0, 0, 4), BAD);
        x.ship(0, 0, 2, 3, 5, 60);
        tells("alike ones: the least", x.tight(0, 1, 0), 1, 0);
        tells("she stays as she is", x.pull(0, 0, 0), 108, 14);

        harbour(2, "c6m2:3");
        sea(2, "p33:31");
        x.ship(0, 3, 3, 1, 0, 50);
        tells("the tightest", x.tight(0, 2, 2), 9, 54);

        promise = 36;
        x.ship(0, 15, 2, 3, 5, 60);
        tells("where(0, 0, 0), from wherever", x.where(0, 0, 0), 0, 108);
        tells("alike ones: the first", x.where(0, 1, 0), 0, 0);
        finds(3, "no such HARBOUR", x.where(0, 3, 0), NOTHING);
        due("no such SHIP", x.where(2, 3, 0), STATE);
        due("where(3, ..)", x.where(3, 0, 0), BAD);
        due("where(.., 4, ..)", x.where(0, 4, 0), BAD);
    }

    private static void tonightAndOdds() {
        begin(37);
        harbour(0, "c6 d3:7 m0:5 r1");
        harbour(1, "c3 m1:0 r0");
        sea(0, "p14:30 p20:50");
        sea(1, "p40:99");
        due("no SHIP", x.tonight(0, 1, 3), STATE);
        finds(0, "NOTHING ahead of STATE", x.tonight(2, 1, 3), NOTHING);
        finds(1, "no such SEA", x.tonight(0, 2, 3), NOTHING);
        due("tonight(4, ..)", x.tonight(4, 0, 0), BAD);
        due("tonight(.., 4, ..)", x.tonight(0, 4, 0), BAD);
        due("tonight(.., 6)", x.tonight(0, 0, 6), BAD);
        due("refused, no ROW came", x.count(6), 0);
        x.ship(0, 3, 2, 3, 5, 60);
        x.ship(1, 15, 9, 1, 0, 9999);
        tells("tonight(0, 1, 3)", x.tonight(0, 1, 3), 1, 272);
        tells("the second one", x.at(3, 1), 1, 5);
        due("a CELL for each SHIP", x.at(3, 2), FINDING);
        x.leave(0);
        row(3, 7, 7, 7, 7, 7);
        tells("one SHIP", x.tonight(1, 0, 3), 0, 0);
        holds("one CELL", 3, 0);
        x.ship(2, 9, 2, 3, 5, 60);
        tells("still water", x.tonight(1, 0, 3), 0, 0);
        holds("alike ones: the first, each at another CELL", 3, 0, 1);
        x.ship(0, 0, 1, 1, 1, 1);
        tells("three in three CELLS", x.tonight(1, 0, 3), 0, 0);
        holds("three", 3, 0, 1, 2);

        begin(38);
        harbour(0, "c6 d3:7 m0:5 r1");
        harbour(1, "c3 m1:0 r0");
        x.ship(0, 3, 2, 3, 5, 60);
        finds(0, "no SEA", x.odds(0, 0), NOTHING);
        sea(0, "p14:30 p20:50");
        sea(1, "p40:99");
        tellsFraction("odds(0, 0)", x.odds(0, 0), 2, 1, 1);
        sea(3, "");
        tellsFraction("of three two", x.odds(0, 0), 2, 2, 3);
        sea(2, "p2:0");
        tellsFraction("of four two", x.odds(0, 0), 2, 1, 2);
        finds(0, "no such CELL", x.odds(0, 1), BEYOND);
        finds(1, "no such HARBOUR", x.odds(0, 2), NOTHING);
        due("no such SHIP", x.odds(1, 2), STATE);
        due("odds(3, 0)", x.odds(3, 0), BAD);
        due("odds(0, 4)", x.odds(0, 4), BAD);
        x.ship(0, 0, 9, 1, 30, 9999);
        tellsFraction("none", x.odds(0, 0), 0, 0, 1);
    }

    private static void works() {
        begin(39);
        due("work(6, ..)", x.work(6, 0, 0, 0), BAD);
        due("work(-1, ..)", x.work(-1, 0, 0, 0), BAD);
        due("k 16", x.work(0, 16, 0, 0), BAD);
        due("k -1", x.work(0, -1, 0, 0), BAD);
        due("v 10", x.work(0, 0, 10, 0), BAD);
        due("v -1", x.work(0, 0, -1, 0), BAD);
        due("cost 100", x.work(0, 0, 0, 100), BAD);
        due("cost -1", x.work(0, 0, 0, -1), BAD);
        for (int i = 0; i < 5; i++) {
            due("work() " + i, x.work(i, 15, 9, 99), i);
        }
        due("a sixth", x.work(5, 0, 0, 0), FULL);
        due("BAD ahead of FULL", x.work(6, 0, 0, 0), BAD);

        promise = 40;
        due("back(6)", x.back(6), BAD);
        due("back(-1)", x.back(-1), BAD);
        due("back(5)", x.back(5), 0);
        due("back(3)", x.back(3), 2);
        due("back(4)", x.back(4), BAD);
        due("count(3)", x.count(3), 3);
        due("work() goes on", x.work(0, 0, 0, 0), 3);
        due("back(0)", x.back(0), 4);

        does();
    }

    private static void doneAs(String what, int set, String text, int cost) {
        harbour(3, text);
        int quiet = x.quiet(3, 0);
        tells(what, x.does(0, 0, set), quiet, cost);
    }

    // What works make of a harbour is what a text makes of it.
    private static void does() {
        begin(41);
        harbour(0, "c5 d2:6 w3 m1:4 r1");
        sea(0, "p9:80");
        x.work(0, 2, 0, 1);
        x.work(1, 3, 0, 2);
        x.work(2, 15, 9, 4);
        x.work(3, 15, 3, 8);
        x.work(4, 2, 9, 16);
        doneAs("none", 0, "c5 d2:6 w3 m1:4", 0);
        doneAs("a WALL more", 1, "c5 d2:6 w2 w3 m1:4", 1);
        doneAs("a WALL less", 2, "c5 d2:6 m1:4", 2);
        doneAs("wider, 9 at most", 4, "c5 d2:6 w3 m1:9", 4);
        doneAs("narrower", 8, "c5 d2:6 w3 m1:1", 8);
        doneAs("deeper, 9 at most", 16, "c5 d2:9 w3 m1:4", 16);
        doneAs("by their numbers", 12, "c5 d2:6 w3 m1:6", 12);
        doneAs("all", 31, "c5 d2:9 w2 m1:6", 31);
        doneAs("the HARBOUR stays", 0, "c5 d2:6 w3 m1:4", 0);
        due("a set of none such", x.does(0, 0, 32), BAD);
        due("a set below 0", x.does(0, 0, -1), BAD);
        due("does(4, ..)", x.does(4, 0, 0), BAD);
        due("does(.., 4, ..)", x.does(0, 4, 0), BAD);
        finds(0, "no such HARBOUR", x.does(1, 0, 0), NOTHING);
        finds(1, "no such SEA", x.does(0, 1, 0), NOTHING);
        x.back(0);
        due("a WORK that went", x.does(0, 0, 1), BAD);
        x.work(4, 1, 9, 1);
        x.work(4, 2, 5, 2);
        doneAs("two deeper, 9 at most", 3, "c5 d1:9 d2:9 w3 m1:4", 3);
        x.back(0);
        x.work(5, 2, 9, 99);
        x.work(3, 0, 9, 99);
        x.work(0, 4, 0, 99);
        x.work(4, 5, 9, 99);
        x.work(1, 0, 0, 99);
        doneAs("shallower, 1 at least", 1, "c5 d2:1 w3 m1:4", 99);
        tells("narrower, 0 at least", x.does(0, 0, 2), 0, 99);
        doneAs("no such WALL, CELL, no WALL there", 28, "c5 d2:6 w3 m1:4", 297);
    }

    private static void worseAndLeast() {
        begin(42);
        // what stands in the document's own tests
        harbour(0, "c8 d0:9d1:9d2:9 w5 m3:2 r2");
        harbour(1, "c8 m3:2 r2");
        sea(0, "p9:70p25:40");
        sea(1, "p31:90");
        tells("without WORKS", x.worse(0, 0), 0, 0);
        x.work(0, 4, 0, 12);
        x.work(1, 5, 0, 7);
        x.work(3, 0, 2, 25);
        x.work(4, 3, 4, 9);
        tells("worse(1, 1)", x.worse(1, 1), 0, 5);
        tells("worse(0, 0)", x.worse(0, 0), 3, 12);
        finds(0, "no such HARBOUR", x.worse(2, 0), NOTHING);
        finds(1, "no such SEA", x.worse(0, 2), NOTHING);
        due("worse(4, 0)", x.worse(4, 0), BAD);
        due("worse(0, 4)", x.worse(0, 4), BAD);

        promise = 43;
        tells("least(1, 1, 20)", x.least(1, 1, 20), 1, 89);
        tells("least(1, 1, 0)", x.least(1, 1, 0), 0, 131);
        tells("least(1, 1, 500)", x.least(1, 1, 500), 4, 0);
        due("c 501", x.least(1, 1, 501), BAD);
        due("c -1", x.least(1, 1, -1), BAD);
        due("least(4, ..)", x.least(4, 0, 0), BAD);
        due("least(.., 4, ..)", x.least(0, 4, 0), BAD);
        finds(2, "no such HARBOUR", x.least(2, 0, 0), NOTHING);
        finds(3, "no such SEA", x.least(0, 2, 0), NOTHING);
        x.back(0);
        tells("without WORKS", x.least(1, 1, 500), 0, 131);
        x.work(3, 0, 9, 10);
        x.work(3, 0, 5, 9);
        x.work(3, 0, 2, 9);
        tells("alike ones: the cheapest, the least bits", x.least(1, 1, 500), 2, 0);
        tells("no more than that", x.least(1, 1, 8), 0, 131);
        tells("just as much", x.least(1, 1, 9), 2, 0);
        x.back(0);
        x.work(2, 0, 0, 0);
        tells("what does nothing for nothing: the least bits", x.least(1, 1, 500), 0, 131);
    }

    private static void sinceAndWhich() {
        begin(44);
        harbour(0, "c3 m0:8 r0");
        sea(0, "p10:32");
        // heights of cell 0: 16 22 23; with a wall behind it: 16 24 28; of cell 1: 0 4 11, with it: 0 0 0
        row(0, 16, 22, 23);
        tells("as it is", x.since(0, 0, 0, 0, 0), 0, 7);
        row(0, 16, 24, 28);
        tells("with a WALL", x.since(0, 0, 0, 0, 0), 1, 7);
        row(0, 0, 2, 0);
        tells("more OFF as it is", x.since(0, 0, 1, 0, 0), 1, 11);
        row(0, 0, 2, 20);
        tells("less OFF as it is", x.since(0, 0, 1, 0, 0), 0, 11);
        row(0, 16);
        tells("as far OFF", x.since(0, 0, 0, 0, 0), 0, 0);
        row(0, 10000, -10000);
        tells("the greatest numbers", x.since(0, 0, 0, 0, 0), 0, 2);
        since();

        begin(45);
        harbour(0, "c3 m0:8 r0");
        row(0, 16, 22, 23);
        finds(0, "no SEA", x.which(0, 0, 0), NOTHING);
        sea(3, "p10:32");
        tells("the one", x.which(0, 0, 0), 3, 0);
        sea(2, "p12:32");
        tells("alike ones: the first", x.which(0, 0, 0), 2, 0);
        sea(1, "");
        tells("not the first, but the least", x.which(0, 0, 0), 2, 0);
        row(0, 0, 1, -1);
        tells("the least OFF", x.which(0, 0, 0), 1, 2);
        row(0, 3);
        tells("a ROW of one", x.which(0, 0, 0), 1, 3);
        row(0, 0, 1, -1);
        finds(1, "no such HARBOUR", x.which(1, 0, 0), NOTHING);
        finds(2, "no such ROW", x.which(0, 0, 1), NOTHING);
        due("which(4, ..)", x.which(4, 0, 0), BAD);
        due("which(.., 16, ..)", x.which(0, 16, 0), BAD);
        due("which(.., 6)", x.which(0, 0, 6), BAD);
        row(1);
        finds(0, "SIZE ahead of BEYOND", x.which(0, 3, 1), SIZE);
        row(1, 0, 10001);
        finds(0, "BEYOND ahead of UNLIKE", x.which(0, 3, 1), BEYOND);
        finds(0, "too great", x.which(0, 0, 1), UNLIKE);
        row(1, 0, -10001);
        tells("once more", x.which(0, 0, 0), 1, 2);
        finds(1, "too low", x.which(0, 0, 1), UNLIKE);
        due("refused, asked() stays", x.asked(), 2);
    }

    private static void since() {
        due("since(4, ..)", x.since(4, 0, 0, 0, 0), BAD);
        due("since(.., 4, ..)", x.since(0, 4, 0, 0, 0), BAD);
        due("since(.., 16, ..)", x.since(0, 0, 16, 0, 0), BAD);
        due("since(.., -1, ..)", x.since(0, 0, 0, -1, 0), BAD);
        due("since(.., k 16, ..)", x.since(0, 0, 0, 16, 0), BAD);
        due("since(.., 6)", x.since(0, 0, 0, 0, 6), BAD);
        finds(0, "no such HARBOUR", x.since(1, 0, 0, 0, 0), NOTHING);
        finds(1, "no such SEA", x.since(0, 1, 0, 0, 0), NOTHING);
        finds(2, "no such ROW", x.since(0, 0, 0, 0, 1), NOTHING);
        row(1);
        finds(0, "SIZE ahead of BEYOND", x.since(0, 0, 3, 0, 1), SIZE);
        row(1, 10001);
        finds(0, "no such CELL", x.since(0, 0, 3, 0, 1), BEYOND);
        finds(1, "no such WALL", x.since(0, 0, 0, 2, 1), BEYOND);
        finds(0, "too great", x.since(0, 0, 0, 1, 1), UNLIKE);
        row(1, -10001);
        finds(1, "too low", x.since(0, 0, 0, 1, 1), UNLIKE);
        harbour(0, "c3 w0");
        row(0, 5, 5);
        tells("a WALL was there already", x.since(0, 0, 1, 0, 0), 0, 0);
    }

    private static void told() {
        begin(46);
        due("asked() before", x.asked(), 0);
        row(0, 5);
        x.at(0, 0);
        due("asked()", x.asked(), 5);
        x.at(0, 1);
        x.at(9, 0);
        x.row(1, 3);
        x.count(6);
        x.work(0, 0, 0, 0);
        x.text(0, 0);
        x.fault(0, true);
        x.ring(0, 0);
        due("asked() stays", x.asked(), 5);

        begin(47);
        row(0, -1, 0, -1, 1);
        x.beat(0);
        due("upper()", x.upper(), 2);
        promise = 48;
        due("lower()", x.lower(), 1);
        x.beat(5);
        due("lower() stays", x.lower(), 1);

        begin(49);
        due("count(8)", x.count(8), BAD);
        due("count(-1)", x.count(-1), BAD);
        harbour(0, "c3");
        harbour(3, "c3");
        sea(1, "");
        x.ship(2, 0, 1, 1, 0, 1);
        x.work(0, 0, 0, 0);
        x.work(0, 0, 0, 0);
        x.work(0, 0, 0, 0);
        x.night(0, 1);
        x.go(9);
        x.keep(1);
        x.keep(2);
        for (int r = 0; r < 5; r++) {
            x.row(r, 0);
        }
        int[] all = {2, 1, 1, 3, 9, 2, 5, 1};
        for (int i = 0; i < 8; i++) {
            due("count(" + i + ")", x.count(i), all[i]);
        }

        begin(50);
        due("finding() before", x.finding(), 0);
        x.row(0, -1);
        due("SIZE", x.finding(), SIZE);
        x.at(0, 0);
        due("NOTHING", x.finding(), NOTHING);
        x.row(0, 0);
        x.go(1);
        x.at(9, 9);
        due("it stays", x.finding(), NOTHING);
        x.at(0, 0);
        due("BEYOND", x.finding(), BEYOND);
        x.mean(0);
        due("NOUGHT", x.finding(), NOUGHT);

        promise = 51;
        x.mean(0);
        int[] often = {1, 1, 0, 2, 1};
        for (int f = 1; f <= 5; f++) {
            due("findings(" + f + ")", x.findings(f), often[f - 1]);
        }
        due("findings(0)", x.findings(0), BAD);
        due("findings(6)", x.findings(6), BAD);
    }

    private static long mixed(long... v) {
        long h = 17;
        for (long each : v) {
            h = 31 * h + each;
        }
        return h;
    }

    private static void digests() {
        begin(52);
        due("digest() of a new one", x.digest(), mixed(0, 0, 0, 0, 0, 0, 0, 0, -1, -1, -1, -1, -1, -1, -1, -1, -1, -1, -1,
                -1, -1, -1, -1, -1, -1, -1, -1, -1, -1, -1));
        write(1, "c3w1 ");
        x.put(1, 4, 200);
        x.put(1, 4, 32);
        x.harbour(1, 1);
        x.put(1, 4, 200);
        write(0, "p9:50");
        x.sea(2, 0);
        x.text(0, 0);
        x.sea(3, 0);
        x.ship(1, 2, 3, 4, 5, 6);
        x.work(5, 6, 7, 8);
        x.night(1, 2);
        x.go(1);
        row(4, 9, -8);
        x.at(4, 0);
        x.at(4, 7);
        // the mouth takes 50 * 4 / 16 = 12
        due("digest()", x.digest(), mixed(1, 2, 1, 1, 1, 0, 1, 2,
                -1, 3, 0, 4, 1, 2, 4, 4, 4, -1, -1,
                -1, -1, 9, 50,
                -1, 2, 3, 4, 5, 6, -1,
                5, 6, 7, 8,
                12, 0, 0, 0, 0, 0, 0, 0, 0, NONE,
                -1, -1, -1, -1, 2, 9, -8, -1,
                0, 5, 99, 51, 119, 49, -56, -1, -1));
        due("asked() stays", x.asked(), 9);
        due("finding() stays", x.finding(), BEYOND);
        long before = x.digest();
        x.keep(0);
        x.ring(1, 0);
        x.quiet(1, 2);
        x.tight(1, 1, 2);
        x.does(1, 2, 1);
        due("a kept NIGHT counts", x.digest() == before ? 0 : 1, 1);
    }
}
