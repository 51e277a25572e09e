/** The edges of promises 46 to 52: what is told. */
public final class EdgesOfToldTest extends Sentences {
    public static void main(String[] args) {
        EdgesOfToldTest t = new EdgesOfToldTest();
        t.askedTold();
        t.askedStays();
        t.fractions();
        t.fractionsStay();
        t.count();
        t.finding();
        t.findings();
        t.digestOfHarbours();
        t.digestOfSeasShipsWorks();
        t.digestOfNights();
        t.digestOfRows();
        t.digestLeaves();
        t.end();
    }

    /** A HARBOUR, a SEA, a SHIP, a WORK, ROWS, and a NIGHT of three SECONDS; asked() tells 5. */
    private void setUp() {
        harbour(0, "c3 m0:8 r0");
        sea(0, "p10:32");
        call("ship", 0, 1, 1, 2, 0, 5);
        call("work", 3, 0, 9, 7);
        row(0, 5, -1, 4, -1, -1, 2);
        row(1, 16, 22, 23);
        call("night", 0, 0);
        call("go", 3);
        call("at", 0, 0);
    }

    private void askedTold() {
        sentence(46, "0 before");
        answers(0, "asked");
        sentence(46, "0 before: also behind calls that were refused, or tell nothing by it");
        finds(NOTHING, "at", 0, 0);
        refused(BAD, "at", 6, 0);
        refused(STATE, "water");
        call("row", 0, 3);
        answers(0, "asked");
        sentence(46, "What the latest of these told, each of them");
        setUp();
        tells(1, 4, "lay", 0, 2, 7);
        tells(1, 7, "at", 0, 2);
        tells(1, 20, "mean", 1);
        tells(1, 8, "about", 0, 2);
        tells(10, 32, "set", 0, 0);
        tells(1, 11, "cell", 1, 0);
        tells(1, 2, "rides", 0, 3);
        tells(1, 35, "water");
        tells(3, 3, "span", 0);
        call("night", 0, 0);
        call("go", 300);
        long[] ranges = new long[3];
        for (int k = 0; k < 3; k++) {
            call("cell", k, 2);
            ranges[k] = call("asked");
        }
        long most = Math.max(ranges[0], Math.max(ranges[1], ranges[2]));
        long least = Math.min(ranges[0], Math.min(ranges[1], ranges[2]));
        call("quiet", 0, 0);
        due("the wildest one", ranges[(int) call("asked")], most);
        call("still", 0, 0);
        answers(least, "asked");
        tells(0, most, "wakes", 0);
        due("her lines PART", call("pull", 0, 0, 0) > 5 ? 1 : 0, 1);
        answers(2, "asked");
        call("tight", 0, 0, 0);
        due("tight() told a PULL", call("asked") > 2 ? 1 : 0, 1);
        call("where", 0, 0, 0);
        long there = call("asked");
        call("tonight", 0, 0, 3);
        due("tonight() told PULLS", call("asked") >= there ? 1 : 0, 1);
        tells(0, 7, "does", 0, 0, 1);
        tells(0, 1, "worse", 0, 0);
        tells(1, 0, "least", 0, 0, 9);
        tells(0, 7, "since", 0, 0, 0, 0, 1);
        tells(0, 0, "which", 0, 0, 1);
        sentence(46, "the latest: 0, too");
        setUp();
        tells(1, 2, "lay", 0, 5, 0);
        tells(1, 0, "at", 0, 5);
    }

    private void stays(String name, int... a) {
        long got = call(name, a);
        due(name + " answered " + got + ", asked()", call("asked"), 5);
    }

    private void askedStays() {
        sentence(46, "no other call changes it");
        setUp();
        stays("row", 2, 3);
        stays("copy", 0, 0, 2, 0, 3);
        stays("tear", 2);
        stays("text", 0, 2);
        stays("put", 0, 0, 65);
        stays("fault", 0, 0);
        stays("fault", 0, 1);
        stays("fault", 3, 1);
        stays("sea", 1, 3);
        stays("harbour", 1, 3);
        stays("ship", 1, 0, 1, 1, 0, 1);
        stays("leave", 1);
        stays("go", 1);
        stays("gauge", 0, 2, 4);
        stays("keep", 0);
        stays("on", 0);
        stays("night", 0, 0);
        stays("beat", 0);
        stays("ring", 0, 0);
        stays("roll", 0);
        stays("kind", 0, 0, 0, 0);
        stays("mark", 2, 0, 0, 0, 3);
        stays("odds", 0, 0);
        stays("work", 0, 0, 0, 0);
        stays("back", 1);
        stays("upper");
        stays("lower");
        stays("count", 0);
        stays("finding");
        stays("findings", 1);
        stays("digest");
        sentence(46, "that was not refused: BAD");
        setUp();
        refused(BAD, "at", 6, 0);
        refused(BAD, "quiet", 4, 0);
        answers(5, "asked");
        sentence(46, "that was not refused: FINDING");
        setUp();
        finds(BEYOND, "at", 0, 6);
        finds(NOTHING, "about", 1, 0);
        finds(BEYOND, "cell", 3, 0);
        answers(5, "asked");
        sentence(46, "that was not refused: STATE");
        setUp();
        refused(STATE, "rides", 1, 0);
        refused(STATE, "pull", 1, 0, 0);
        answers(5, "asked");
    }

    private void fractions() {
        sentence(47, "0 before");
        answers(0, "upper");
        sentence(48, "1 before");
        answers(1, "lower");
        sentence(47, "of the fraction that was told last: by beat(), ring(), roll(), odds()");
        setUp();
        tellsFraction(2, 3, 1, "beat", 0);
        harbour(1, "c3");
        tellsFraction(53, 393, 52, "ring", 1, 2);
        call("ship", 1, 0, 1, 1, 1, 1);
        tellsFraction(31, 13, 1, "roll", 1);
        tellsFraction(1, 1, 1, "odds", 0, 0);
        sea(1, "");
        tellsFraction(1, 1, 2, "odds", 0, 0);
        sentence(48, "in lowest terms, the lower number above 0 (0 by 1)");
        setUp();
        sea(1, "");
        call("odds", 0, 0);
        call("ship", 0, 1, 1, 2, 0, 9999);
        tellsFraction(0, 0, 1, "odds", 0, 0);
    }

    private void fractionsStay() {
        sentence(47, "a call that is refused leaves it");
        row(0, -1, 0, -1, 0, -1, -1, 0);
        tellsFraction(3, 5, 2, "beat", 0);
        finds(NOTHING, "beat", 1);
        refused(BAD, "beat", 6);
        finds(NOTHING, "ring", 0, 0);
        refused(STATE, "roll", 0);
        refused(STATE, "odds", 0, 0);
        answers(5, "upper");
        answers(2, "lower");
        sentence(48, "calls that tell no fraction leave it");
        setUp();
        tellsFraction(2, 3, 1, "beat", 0);
        call("span", 0);
        call("mean", 1);
        call("kind", 0, 0, 0, 0);
        call("mark", 2, 0, 0, 0, 3);
        call("wakes", 0);
        tellsFraction(1, 3, 1, "about", 0, 0);
    }

    private void count() {
        sentence(49, "BAD");
        bounds("count", 0, 0, 7, 0);
        sentence(49, "0 HARBOURS: none to all four; one anew is no more");
        for (int k = 0; k < 4; k++) {
            harbour(k, "c3");
            harbour(k, "c4");
            answers(k + 1, "count", 0);
        }
        sentence(49, "1 SEAS: none to all four; one without SETS is there");
        for (int k = 3; k >= 0; k--) {
            sea(k, "");
            sea(k, "");
            answers(4 - k, "count", 1);
        }
        sentence(49, "2 SHIPS: to all three, and back");
        for (int s = 0; s < 3; s++) {
            call("ship", s, 0, 1, 1, 0, 1);
            call("ship", s, 1, 1, 1, 0, 1);
            answers(s + 1, "count", 2);
        }
        for (int s = 0; s < 3; s++) {
            call("leave", s);
            answers(2 - s, "count", 2);
        }
        sentence(49, "3 WORKS: to all five, and back");
        for (int i = 0; i < 5; i++) {
            call("work", 0, 0, 0, 0);
            answers(i + 1, "count", 3);
        }
        call("work", 0, 0, 0, 0);
        answers(5, "count", 3);
        call("back", 1);
        answers(1, "count", 3);
        sentence(49, "4 the NIGHT's SECOND (0: none)");
        answers(0, "count", 4);
        harbour(0, "c3");
        sea(0, "");
        call("night", 0, 0);
        answers(0, "count", 4);
        for (int i = 0; i < 25; i++) {
            call("go", 400);
        }
        answers(10000, "count", 4);
        call("night", 0, 0);
        answers(0, "count", 4);
        sentence(49, "5 kept NIGHTS: to all three; one kept anew is no more");
        harbour(0, "c3");
        sea(0, "");
        call("night", 0, 0);
        for (int k = 0; k < 3; k++) {
            call("keep", k);
            call("keep", k);
            answers(k + 1, "count", 5);
        }
        call("on", 0);
        answers(3, "count", 5);
        sentence(49, "6 ROWS: to all six, and back; one of none is there");
        for (int r = 0; r < 6; r++) {
            call("row", r, 0);
            call("row", r, 0);
            answers(r + 1, "count", 6);
        }
        for (int r = 0; r < 6; r++) {
            call("tear", r);
            answers(5 - r, "count", 6);
        }
        sentence(49, "7 TEXTS: to all four; one of none is there");
        for (int t = 0; t < 4; t++) {
            call("text", t, 0);
            call("text", t, 0);
            answers(t + 1, "count", 7);
        }
    }

    private void finding() {
        sentence(50, "0 before any");
        answers(0, "finding");
        sentence(50, "0 before any: also behind what was refused otherwise");
        call("row", 9, 9);
        call("go", 1);
        for (int i = 0; i < 6; i++) {
            call("work", 0, 0, 0, 0);
        }
        answers(0, "finding");
        sentence(50, "The latest FINDING: each of the five");
        call("at", 0, 0);
        answers(NOTHING, "finding");
        call("row", 0, 0);
        call("at", 0, 0);
        answers(BEYOND, "finding");
        call("mean", 0);
        answers(NOUGHT, "finding");
        call("row", 0, -1);
        answers(SIZE, "finding");
        harbour(0, "c3");
        sea(0, "");
        row(0, 10001);
        call("which", 0, 0, 0);
        answers(UNLIKE, "finding");
        sentence(50, "The latest FINDING: what is not refused leaves it");
        call("at", 0, 0);
        call("row", 0, 1);
        call("at", 0, 0);
        call("finding");
        answers(NOTHING, "finding");
        sentence(50, "The latest FINDING: BAD, FULL, STATE, SPENT leave it");
        call("at", 0, 0);
        for (int i = 0; i < 6; i++) {
            call("work", 0, 0, 0, 0);
        }
        call("at", 6, 0);
        call("leave", 0);
        harbour(0, "c3");
        sea(0, "");
        call("night", 0, 0);
        for (int i = 0; i < 26; i++) {
            call("go", 400);
        }
        answers(NOTHING, "finding");
    }

    private void findings() {
        sentence(51, "BAD");
        bounds("findings", 0, 1, 5, 1);
        sentence(51, "How often a FINDING (1 .. 5) was answered: never");
        for (int f = 1; f <= 5; f++) {
            answers(0, "findings", f);
        }
        sentence(51, "How often a FINDING was answered: each by itself");
        for (int i = 0; i < 3; i++) {
            call("row", 0, -1);
        }
        call("at", 0, 0);
        call("at", 1, 0);
        answers(2, "findings", NOTHING);
        answers(0, "findings", BEYOND);
        answers(0, "findings", UNLIKE);
        answers(0, "findings", NOUGHT);
        answers(3, "findings", SIZE);
        sentence(51, "How often: four hundred times");
        for (int i = 0; i < 400; i++) {
            call("at", 0, 0);
        }
        answers(400, "findings", NOTHING);
        sentence(51, "How often: asking tells nothing more");
        call("at", 0, 0);
        call("findings", NOTHING);
        call("findings", 6);
        answers(1, "findings", NOTHING);
    }

    private static long mixed(long[]... parts) {
        long h = 17;
        for (long[] part : parts) {
            for (long v : part) {
                h = 31 * h + v;
            }
        }
        return h;
    }

    private static long[] of(long... v) {
        return v;
    }

    private static final long[] FOUR = of(-1, -1, -1, -1), THREE = of(-1, -1, -1), ONE = of(-1),
            SIX = of(-1, -1, -1, -1, -1, -1);

    private void digestOfHarbours() {
        sentence(52, "-1 once: missing; none");
        answers(mixed(new long[8], FOUR, FOUR, THREE, ONE, SIX, FOUR), "digest");
        sentence(52, "of each HARBOUR about() 0 to 4, depths: of three CELLS, the first one");
        harbour(0, "c3 d2:9 w1 m2:0 r9");
        call("text", 3, 0);
        answers(mixed(of(1, 0, 0, 0, 0, 0, 0, 1), of(3, 2, 0, 9, 2, 4, 4, 9), THREE, FOUR, THREE, ONE, SIX, THREE,
                of(0)), "digest");
        sentence(52, "of each HARBOUR about() 0 to 4, depths: of sixteen CELLS, the last one");
        harbour(3, "c16 w14");
        call("text", 3, 0);
        answers(mixed(of(1, 0, 0, 0, 0, 0, 0, 1), THREE, of(16, 0, 4, 1, 16384), of(4, 4, 4, 4, 4, 4, 4, 4), of(4, 4, 4,
                4, 4, 4, 4, 4), FOUR, THREE, ONE, SIX, THREE, of(0)), "digest");
    }

    private void digestOfSeasShipsWorks() {
        sentence(52, "of each SEA of each SET: one without SETS adds nothing");
        sea(1, "");
        answers(mixed(of(0, 1, 0, 0, 0, 0, 0, 1), FOUR, THREE, THREE, ONE, SIX, THREE, of(0)), "digest");
        sentence(52, "of each SEA of each SET its BEAT, what it pushes: four");
        sea(3, "p2:0p60:99p3:1p4:2");
        call("text", 3, 0);
        answers(mixed(of(0, 1, 0, 0, 0, 0, 0, 1), FOUR, THREE, of(2, 0, 60, 99, 3, 1, 4, 2), THREE, ONE, SIX, THREE,
                of(0)), "digest");
        sentence(52, "of each SHIP (-1 once: missing) CELL, WEIGHT, TIGHTNESS, SLACK, STRENGTH");
        call("ship", 0, 15, 9, 8, 30, 9999);
        call("ship", 2, 1, 2, 3, 4, 5);
        answers(mixed(of(0, 0, 2, 0, 0, 0, 0, 0), FOUR, FOUR, of(15, 9, 8, 30, 9999), ONE, of(1, 2, 3, 4, 5), ONE, SIX,
                FOUR), "digest");
        sentence(52, "of each WORK kind, k, v, cost: five; none adds nothing");
        for (int i = 0; i < 5; i++) {
            call("work", i, 15 - i, 9 - i, 99 - i);
        }
        answers(mixed(of(0, 0, 0, 5, 0, 0, 0, 0), FOUR, FOUR, THREE, of(0, 15, 9, 99, 1, 14, 8, 98, 2, 13, 7, 97, 3, 12,
                6, 96, 4, 11, 5, 95), ONE, SIX, FOUR), "digest");
        call("back", 0);
        answers(mixed(new long[8], FOUR, FOUR, THREE, ONE, SIX, FOUR), "digest");
    }

    // c3 m0:8 r0 under p10:32 behind three SECONDS: HEIGHTS 23 11 1, FLOWS 8 1.
    private void digestOfNights() {
        long[] harbour = of(3, 0, 8, 0, 0, 4, 4, 4);
        long[] sea = of(10, 32);
        sentence(52, "of the NIGHT of each CELL HEIGHT and FLOW (of the last CELL 0)");
        harbour(0, "c3 m0:8 r0");
        sea(0, "p10:32");
        call("text", 3, 0);
        call("night", 0, 0);
        call("go", 3);
        answers(mixed(of(1, 1, 0, 0, 3, 0, 0, 1), harbour, THREE, sea, THREE, THREE, of(23, 8, 11, 1, 1, 0), SIX, THREE,
                of(0)), "digest");
        sentence(52, "of the NIGHT: at its beginning, all 0, not -1");
        harbour(0, "c3 m0:8 r0");
        sea(0, "p10:32");
        call("text", 3, 0);
        call("night", 0, 0);
        answers(mixed(of(1, 1, 0, 0, 0, 0, 0, 1), harbour, THREE, sea, THREE, THREE, new long[6], SIX, THREE, of(0)),
                "digest");
        sentence(52, "of each SHIP of it rides() 0 to 3: also one that has left, not one that has come");
        harbour(0, "c3 m0:8 r0");
        sea(0, "p10:32");
        call("text", 3, 0);
        call("ship", 1, 1, 1, 2, 0, 5);
        call("night", 0, 0);
        call("go", 3);
        call("leave", 1);
        call("ship", 0, 1, 1, 2, 0, 5);
        answers(mixed(of(1, 1, 1, 0, 3, 0, 0, 1), harbour, THREE, sea, THREE, of(1, 1, 2, 0, 5, -1, -1), of(23, 8, 11, 1,
                1, 0), of(3, 2, 6, 2), SIX, THREE, of(0)), "digest");
        sentence(52, "of each SHIP of it rides() 0 to 3: the first and the last one");
        harbour(0, "c3 m0:8 r0");
        sea(0, "p10:32");
        call("text", 3, 0);
        call("ship", 0, 1, 1, 2, 0, 5);
        call("ship", 2, 0, 1, 2, 30, 5);
        call("night", 0, 0);
        call("go", 3);
        answers(mixed(of(1, 1, 2, 0, 3, 0, 0, 1), harbour, THREE, sea, THREE, of(1, 1, 2, 0, 5, -1, 0, 1, 2, 30, 5),
                of(23, 8, 11, 1, 1, 0), of(3, 2, 6, 2), of(4, 3, 0, NONE), SIX, THREE, of(0)), "digest");
        sentence(52, "a kept NIGHT is told by count() 5 alone");
        harbour(0, "c3 m0:8 r0");
        sea(0, "p10:32");
        call("text", 3, 0);
        call("night", 0, 0);
        call("go", 2);
        call("keep", 1);
        call("go", 1);
        answers(mixed(of(1, 1, 0, 0, 3, 1, 0, 1), harbour, THREE, sea, THREE, THREE, of(23, 8, 11, 1, 1, 0), SIX, THREE,
                of(0)), "digest");
    }

    private void digestOfRows() {
        sentence(52, "of each ROW its size (-1: missing) and places: the least, the greatest int, one of none");
        row(0, LOW, HIGH);
        row(5);
        answers(mixed(of(0, 0, 0, 0, 0, 0, 2, 0), FOUR, FOUR, THREE, ONE, of(2, LOW, HIGH), FOUR, of(0), FOUR), "digest");
        sentence(52, "of each ROW: a full one");
        row(3, filled(60, 7));
        long[] full = new long[61];
        java.util.Arrays.fill(full, 7);
        full[0] = 60;
        answers(mixed(of(0, 0, 0, 0, 0, 0, 1, 0), FOUR, FOUR, THREE, ONE, THREE, full, of(-1, -1), FOUR), "digest");
        sentence(52, "of each TEXT likewise: bytes below 0, blanks, one of none");
        call("text", 0, 3);
        call("put", 0, 0, 128);
        call("put", 0, 1, 127);
        call("text", 3, 0);
        answers(mixed(of(0, 0, 0, 0, 0, 0, 0, 2), FOUR, FOUR, THREE, ONE, SIX, of(3, -128, 127, 32), of(-1, -1), of(0)),
                "digest");
        sentence(52, "of each TEXT: a full one");
        call("text", 1, 100);
        long[] blanks = new long[101];
        java.util.Arrays.fill(blanks, 32);
        blanks[0] = 100;
        answers(mixed(of(0, 0, 0, 0, 0, 0, 0, 1), FOUR, FOUR, THREE, ONE, SIX, ONE, blanks, of(-1, -1)), "digest");
    }

    private void digestLeaves() {
        sentence(52, "asked() stays; so does all else");
        setUp();
        finds(NOTHING, "at", 5, 0);
        call("beat", 0);
        long once = call("digest");
        answers(once, "digest");
        answers(5, "asked");
        answers(NOTHING, "finding");
        answers(1, "findings", NOTHING);
        answers(3, "upper");
        answers(1, "lower");
        sentence(52, "asked(), the fraction, FINDINGS are not in it");
        setUp();
        long before = call("digest");
        call("at", 0, 1);
        call("beat", 0);
        call("at", 5, 0);
        answers(before, "digest");
    }
}
