import java.util.Arrays;

/**
 * What the tests of edges share: a sentence of the document by its promise, a new object for it, and calls by their
 * names, held against what is due. Promise 0 is what stands ahead of the promises ("Terms", parts 1 to 3).
 */
class Sentences {
    static final int BAD = -1, FULL = -2, FINDING = -3, STATE = -4, SPENT = -6, NONE = -9;
    static final int NOTHING = 1, BEYOND = 2, UNLIKE = 3, NOUGHT = 4, SIZE = 5;
    static final int LOW = Integer.MIN_VALUE, HIGH = Integer.MAX_VALUE;
    private static final int MOST_CALLS = 512;

    SurgeBasin x = new SurgeBasin();
    private int promise = 0;
    private String words = "";
    private int sentences = 0;
    private int wrong = 0;
    private int calls = 0;
    private long[] lastSeen = null;

    /** A new sentence, and a new object for it. */
    void sentence(int itsPromise, String itsWords) {
        countCalls();
        promise = itsPromise;
        words = itsWords;
        sentences++;
        x = new SurgeBasin();
        calls = 0;
        lastSeen = null;
    }

    /** The same sentence once more, on a new object. */
    void anew() {
        countCalls();
        x = new SurgeBasin();
        calls = 0;
        lastSeen = null;
    }

    void end() {
        countCalls();
        System.out.println(wrong == 0 ? "all " + sentences + " sentences hold" : wrong + " answers are not as due");
        if (wrong != 0) {
            System.exit(1);
        }
    }

    // What an object answers behind its 512th call is free, so no sentence may lean on it.
    private void countCalls() {
        if (calls > MOST_CALLS) {
            complain("the test makes " + calls + " calls");
        }
    }

    private void complain(String what) {
        wrong++;
        System.out.println((promise == 0 ? "terms" : "promise " + promise) + " (" + words + "): " + what);
    }

    private static String told(String name, int... a) {
        String s = Arrays.toString(a);
        return name + "(" + s.substring(1, s.length() - 1) + ")";
    }

    void due(String what, long got, long want) {
        if (got != want) {
            complain(what + " answered " + got + ", due is " + want);
        }
    }

    long call(String name, int... a) {
        calls++;
        lastSeen = null;
        return Calls.call(x, name, a);
    }

    void answers(long want, String name, int... a) {
        due(told(name, a), call(name, a), want);
    }

    void tells(long want, long asked, String name, int... a) {
        due(told(name, a), call(name, a), want);
        due(told(name, a) + ", asked()", call("asked"), asked);
    }

    void tellsFraction(long want, long upper, long lower, String name, int... a) {
        due(told(name, a), call(name, a), want);
        due(told(name, a) + ", upper()", call("upper"), upper);
        due(told(name, a) + ", lower()", call("lower"), lower);
    }

    // All that can be seen without a change of asked().
    private long[] see() {
        if (lastSeen != null) {
            return lastSeen;
        }
        long[] seen = {call("finding"), call("findings", 1), call("findings", 2), call("findings", 3),
            call("findings", 4), call("findings", 5), call("digest"), call("asked"), call("upper"), call("lower")};
        return seen;
    }

    /** The call is refused so, and all that can be seen stays as it was. */
    void refused(int code, String name, int... a) {
        long[] before = see();
        due(told(name, a), call(name, a), code);
        seenIs(told(name, a), before);
    }

    /** The call is refused by a FINDING; that one is told, and counted once more; all else stays. */
    void finds(int finding, String name, int... a) {
        long[] before = see();
        due(told(name, a), call(name, a), FINDING);
        before[0] = finding;
        before[finding]++;
        seenIs(told(name, a), before);
    }

    private void seenIs(String what, long[] want) {
        long[] now = see();
        if (!Arrays.equals(now, want)) {
            complain(what + " is refused, and left " + Arrays.toString(now) + ", due is " + Arrays.toString(want));
        }
        lastSeen = now;
    }

    /** What is one too small, one too large, or far out at one place of a call is BAD; the ends themselves are not. */
    void bounds(String name, int place, int least, int most, int... a) {
        int[] b = a.clone();
        for (int v : new int[] {least - 1, most + 1, LOW, HIGH}) {
            b[place] = v;
            refused(BAD, name, b);
        }
        for (int v : new int[] {least, most}) {
            b[place] = v;
            if (call(name, b) == BAD) {
                complain(told(name, b) + " answered BAD");
            }
        }
    }

    void write(int t, String s) {
        call("text", t, s.length());
        for (int i = 0; i < s.length(); i++) {
            if (s.charAt(i) != ' ') {
                call("put", t, i, s.charAt(i));
            }
        }
    }

    void harbour(int k, String s) {
        write(3, s);
        if (call("harbour", k, 3) < 0) {
            complain("harbour " + s + " is refused");
        }
    }

    void sea(int k, String s) {
        write(3, s);
        if (call("sea", k, 3) < 0) {
            complain("sea " + s + " is refused");
        }
    }

    void row(int r, int... v) {
        call("row", r, v.length);
        for (int i = 0; i < v.length; i++) {
            if (v[i] != 0) {
                call("lay", r, i, v[i]);
            }
        }
    }

    /** The ROW is there with these numbers and no more. */
    void holds(int r, int... v) {
        for (int i = 0; i < v.length; i++) {
            tells(1, v[i], "at", r, i);
        }
        answers(FINDING, "at", r, v.length);
    }

    /** HEIGHTS of a CELL behind the next SECONDS, by ROW 5. */
    void rises(int cell, int... heights) {
        call("gauge", cell, heights.length, 5);
        holds(5, heights);
    }

    /**
     * A NIGHT under way is no other behind the call, nor is what it goes on to. There are HARBOUR, SEA, SHIP, WORK and
     * ROW 0; the call comes once ahead, so that a ROW that it fills is the same already.
     */
    void nightStays(String name, int... a) {
        harbour(0, "c8 m3:2 r2");
        sea(0, "p9:70p25:40");
        call("ship", 0, 3, 2, 3, 5, 60);
        call("work", 3, 0, 1, 9);
        row(0, 1, 2, 3);
        call("night", 0, 0);
        call("go", 50);
        call(name, a);
        call("keep", 1);
        call("go", 50);
        long then = rangesAndDigest();
        call("on", 1);
        long now = rangesAndDigest();
        due(told(name, a) + " is refused", call(name, a) < 0 ? 1 : 0, 0);
        due(told(name, a) + " leaves the NIGHT", rangesAndDigest(), now);
        answers(50, "count", 4);
        answers(100, "go", 50);
        due(told(name, a) + " leaves what comes of it", rangesAndDigest(), then);
    }

    private long rangesAndDigest() {
        long h = call("digest");
        for (int k = 0; k < 8; k++) {
            call("cell", k, 2);
            h = 31 * h + call("asked");
        }
        return h;
    }

    static int[] filled(int n, int v) {
        int[] all = new int[n];
        Arrays.fill(all, v);
        return all;
    }
}
