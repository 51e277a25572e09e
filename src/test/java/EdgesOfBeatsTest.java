/**
 * The edges of promises 25 to 30, BEATS and their KINDS. ROLLS without a BEAT and RINGS that are never loud are not
 * among them: every SHIP that there may be crosses seven times at least, and every RING is loud for a SECOND.
 */
public final class EdgesOfBeatsTest extends Sentences {
    // Of RINGS: NONE_AT_0 never comes below 0, ONCE_AT_4 crosses once, TWICE_AT_1 twice, the last SECOND's HEIGHT of
    // LATE_AT_2 is its last CROSSING.
    private static final String NONE_AT_0 = "c3w0", ONCE_AT_4 = "c5w2", TWICE_AT_1 = "c6m1:0r5", LATE_AT_2 = "c3";
    // Its RING by the MOUTH beats 395/37, cut 10; SETS of 8 and 12 are just near enough.
    private static final String TEN = "c8 m3:2 r2";

    public static void main(String[] args) {
        EdgesOfBeatsTest t = new EdgesOfBeatsTest();
        t.crossings();
        t.beat();
        t.span();
        t.ringRefused();
        t.ring();
        t.roll();
        t.kindRefused();
        t.kindOfRing();
        t.kindOfSet();
        t.kindOfRoll();
        t.markRefused();
        t.markAs();
        t.markTells();
        t.end();
    }

    private void crossings() {
        sentence(0, "CROSSES: that at i less 1 is below 0, and that at i is 0");
        row(0, -1, 0, -1, 0);
        tellsFraction(2, 2, 1, "beat", 0);
        sentence(0, "CROSSES: or above");
        row(0, -1, 1, -1, 1);
        tellsFraction(2, 2, 1, "beat", 0);
        sentence(0, "CROSSES: the least and the greatest int");
        row(0, LOW, HIGH, LOW, HIGH);
        tellsFraction(2, 2, 1, "beat", 0);
        sentence(0, "CROSSES: not from 0 to above, nor from 0 to 0");
        row(0, 0, 5, 0, 0, 0, 5);
        finds(NOUGHT, "beat", 0);
        sentence(0, "CROSSES: not from below 0 to below 0, nor downward");
        row(0, -5, -1, -2, -1);
        finds(NOUGHT, "beat", 0);
        row(0, 5, -1, -1, -1);
        finds(NOUGHT, "beat", 0);
        sentence(0, "CROSSES: not at the first place, whatever is there");
        row(0, 0, -1, 0);
        finds(NOUGHT, "beat", 0);
        sentence(0, "CROSSES: at places 1 and 59 of 60");
        int[] v = filled(60, -1);
        v[1] = 0;
        v[59] = 0;
        row(0, v);
        tellsFraction(2, 58, 1, "beat", 0);
        sentence(0, "CROSSES: every second of 60 places");
        for (int i = 0; i < 60; i++) {
            v[i] = i % 2 - 1;
        }
        row(0, v);
        tellsFraction(30, 2, 1, "beat", 0);
    }

    private void beat() {
        sentence(25, "BAD");
        row(0, 1);
        row(5, 1);
        bounds("beat", 0, 0, 5, 0);
        sentence(25, "NOTHING");
        finds(NOTHING, "beat", 0);
        sentence(25, "NOUGHT: a ROW of none");
        row(0);
        finds(NOUGHT, "beat", 0);
        sentence(25, "NOUGHT: a ROW of one");
        row(0, -1);
        finds(NOUGHT, "beat", 0);
        sentence(25, "NOUGHT: one CROSSING");
        row(0, -1, 1, 1, 1);
        finds(NOUGHT, "beat", 0);
        sentence(25, "two at least");
        row(0, -1, 1, -1, 1);
        tellsFraction(2, 2, 1, "beat", 0);
        sentence(25, "NOUGHT leaves upper(), lower(), as they were told");
        row(0, -1, 0, -1, 0, -1, -1, 0);
        tellsFraction(3, 5, 2, "beat", 0);
        row(1, -1, 1);
        finds(NOUGHT, "beat", 1);
        answers(5, "upper");
        answers(2, "lower");
        sentence(25, "the first CROSSING to the last one by how many there are less 1, in lowest terms");
        row(0, -1, 0, -1, -1, -1, 0, -1, 0);
        tellsFraction(3, 3, 1, "beat", 0);
        sentence(25, "beat() tells nothing by asked()");
        row(0, -1, 0, -1, 7);
        call("at", 0, 3);
        tells(2, 7, "beat", 0);
        sentence(25, "only the places that the ROW has");
        row(0, -1, 0, -1, 0, -1, 0);
        row(0, -1, 0, -1);
        finds(NOUGHT, "beat", 0);
    }

    private void span() {
        sentence(26, "BAD");
        row(0, 1);
        row(5, 1);
        bounds("span", 0, 0, 5, 0);
        sentence(26, "NOTHING");
        finds(NOTHING, "span", 0);
        sentence(26, "NOUGHT: fewer than two: none, one");
        row(0);
        finds(NOUGHT, "span", 0);
        row(0, -1, 1);
        finds(NOUGHT, "span", 0);
        sentence(26, "two: the least is the greatest");
        row(0, -1, 1, -1, -1, 1);
        tells(3, 3, "span", 0);
        sentence(26, "The least first, the greatest last");
        row(0, -1, 0, -1, 0, -1, -1, 0, -1, -1, -1, 0);
        tells(2, 4, "span", 0);
        sentence(26, "The greatest first, the least last");
        row(0, -1, 0, -1, -1, -1, 0, -1, -1, 0, -1, 0);
        tells(2, 4, "span", 0);
        sentence(26, "The least, the greatest in the middle");
        row(0, -1, 0, -1, -1, 0, -1, 0, -1, -1, -1, 0, -1, -1, 0);
        tells(2, 4, "span", 0);
        sentence(26, "from a CROSSING to the next one: what is ahead of the first, behind the last does not count");
        row(0, -1, -1, -1, -1, -1, 0, -1, 0, 0, 0, 0, 0, 0);
        tells(2, 2, "span", 0);
        sentence(26, "span() tells nothing by upper(), lower()");
        row(0, -1, 0, -1, -1, 0);
        tellsFraction(3, 0, 1, "span", 0);
    }

    private void ringRefused() {
        sentence(27, "BAD: a HARBOUR that is none");
        harbour(0, "c3");
        harbour(3, "c3");
        bounds("ring", 0, 0, 3, 0, 0);
        sentence(27, "BAD (a CELL 0 .. 15)");
        harbour(0, "c16");
        bounds("ring", 1, 0, 15, 0, 0);
        sentence(27, "BAD ahead of NOTHING");
        refused(BAD, "ring", 0, 16);
        refused(BAD, "ring", 4, 0);
        sentence(27, "NOTHING");
        finds(NOTHING, "ring", 0, 0);
        sentence(27, "NOTHING ahead of BEYOND");
        finds(NOTHING, "ring", 0, 15);
        sentence(27, "BEYOND: no such CELL");
        harbour(0, "c3");
        finds(BEYOND, "ring", 0, 3);
        finds(BEYOND, "ring", 0, 15);
        sentence(27, "NOUGHT: no CROSSING");
        harbour(0, NONE_AT_0);
        finds(NOUGHT, "ring", 0, 0);
        sentence(27, "NOUGHT: one CROSSING");
        harbour(0, ONCE_AT_4);
        finds(NOUGHT, "ring", 0, 4);
        sentence(27, "NOUGHT leaves upper(), lower(), as they were told");
        harbour(0, ONCE_AT_4);
        row(0, -1, 0, -1, 0, -1, -1, 0);
        call("beat", 0);
        finds(NOUGHT, "ring", 0, 4);
        answers(5, "upper");
        answers(2, "lower");
    }

    private void ring() {
        sentence(27, "two CROSSINGS are enough");
        harbour(0, TWICE_AT_1);
        tellsFraction(2, 7, 1, "ring", 0, 1);
        sentence(27, "its HEIGHTS behind 400 SECONDS: the last one counts");
        harbour(0, LATE_AT_2);
        tellsFraction(53, 393, 52, "ring", 0, 2);
        sentence(27, "without PUSH: no SEA is asked for, nor minded");
        harbour(0, LATE_AT_2);
        sea(0, "p2:99");
        tellsFraction(53, 393, 52, "ring", 0, 2);
        sentence(27, "the MOUTH as it is: g 0, g 9");
        harbour(0, "c3w0w1 m0:0");
        harbour(1, "c3 m0:0 r0");
        harbour(2, "c3 m0:9 r0");
        finds(NOUGHT, "ring", 0, 0);
        long shut = call("ring", 1, 0);
        due("open it rings as shut", call("ring", 2, 0) == shut ? 1 : 0, 0);
        sentence(27, "the NIGHT stays as it is");
        nightStays("ring", 0, 1);
        sentence(27, "the first, the last CELL");
        harbour(3, "c16 m0:0 r0");
        long first = call("ring", 3, 0);
        tellsFraction(first, call("upper"), call("lower"), "ring", 3, 15);
        sentence(27, "ring() tells nothing by asked()");
        harbour(0, LATE_AT_2);
        call("about", 0, 0);
        tells(53, 3, "ring", 0, 2);
    }

    private void roll() {
        sentence(28, "BAD");
        for (int s = 0; s < 3; s++) {
            call("ship", s, 0, 1, 1, 0, 1);
        }
        bounds("roll", 0, 0, 2, 0);
        sentence(28, "STATE: no such SHIP");
        refused(STATE, "roll", 0);
        call("ship", 1, 0, 1, 1, 0, 1);
        refused(STATE, "roll", 0);
        refused(STATE, "roll", 2);
        call("leave", 1);
        refused(STATE, "roll", 1);
        sentence(28, "her places behind 400 SECONDS: the last one counts");
        call("ship", 0, 0, 1, 1, 1, 1);
        tellsFraction(31, 13, 1, "roll", 0);
        sentence(28, "her place SLACK and 100 at first: not 99, not 101");
        // from 99 it were 384/26, from 101 379/26
        call("ship", 0, 0, 1, 1, 7, 1);
        tellsFraction(27, 190, 13, "roll", 0);
        sentence(28, "her place SLACK and 100 at first: the heaviest SHIP, slack lines");
        call("ship", 0, 0, 9, 1, 24, 1);
        tellsFraction(7, 52, 1, "roll", 0);
        sentence(28, "the lightest SHIP on the tightest lines");
        call("ship", 0, 0, 1, 9, 0, 1);
        tellsFraction(106, 79, 21, "roll", 0);
        sentence(28, "a SHIP at a CELL that no HARBOUR has rolls, too; her STRENGTH does not matter");
        call("ship", 0, 15, 1, 1, 1, 9999);
        tellsFraction(31, 13, 1, "roll", 0);
        sentence(28, "the NIGHT stays as it is");
        nightStays("roll", 0);
        sentence(28, "ROLL is of the SHIP as she is, not as she rides in a NIGHT");
        harbour(0, "c3 m0:8 r0");
        sea(0, "p10:99");
        call("ship", 0, 1, 1, 1, 1, 1);
        call("night", 0, 0);
        call("go", 33);
        tellsFraction(31, 13, 1, "roll", 0);
        call("leave", 0);
        refused(STATE, "roll", 0);
    }

    private void kindRefused() {
        sentence(29, "BAD: which is none of 0, 1, 2");
        harbour(0, "c3");
        sea(0, "p5:5");
        call("ship", 0, 0, 1, 1, 0, 1);
        bounds("kind", 0, 0, 2, 0, 0, 0, 0);
        sentence(29, "BAD: of a RING, a HARBOUR that is none");
        harbour(0, "c3");
        bounds("kind", 1, 0, 3, 0, 0, 0, 0);
        sentence(29, "BAD: of a RING, a CELL that is none");
        harbour(0, "c16");
        bounds("kind", 2, 0, 15, 0, 0, 0, 0);
        sentence(29, "BAD ahead of NOTHING: of a RING");
        refused(BAD, "kind", 0, 0, -1, 0);
        refused(BAD, "kind", 0, 0, 16, 0);
        refused(BAD, "kind", 0, 4, 0, 0);
        sentence(29, "NOTHING: of a RING, ahead of BEYOND");
        finds(NOTHING, "kind", 0, 0, 0, 0);
        finds(NOTHING, "kind", 0, 3, 15, 0);
        sentence(29, "BEYOND: no such CELL");
        harbour(0, "c3");
        finds(BEYOND, "kind", 0, 0, 3, 0);
        finds(BEYOND, "kind", 0, 0, 15, 0);
        sentence(29, "BAD: of a SET, a SEA that is none");
        harbour(0, "c3");
        sea(0, "p5:5");
        bounds("kind", 1, 0, 3, 1, 0, 0, 0);
        sentence(29, "BAD: of a SET, a HARBOUR that is none");
        harbour(0, "c3");
        sea(0, "p5:5");
        bounds("kind", 3, 0, 3, 1, 0, 0, 0);
        sentence(29, "BAD ahead of NOTHING: of a SET");
        refused(BAD, "kind", 1, 4, 0, 0);
        refused(BAD, "kind", 1, 0, 0, 4);
        sentence(29, "NOTHING: of a SET, the SEA, the HARBOUR");
        harbour(0, "c3");
        finds(NOTHING, "kind", 1, 0, 0, 0);
        anew();
        sea(0, "p5:5");
        finds(NOTHING, "kind", 1, 0, 0, 0);
        sentence(29, "NOTHING ahead of BEYOND: of a SET");
        sea(0, "p5:5");
        finds(NOTHING, "kind", 1, 0, 1, 0);
        finds(NOTHING, "kind", 1, 0, -1, 0);
        sentence(29, "BEYOND: no such SET (any number that is none)");
        harbour(0, "c3");
        sea(0, "p5:5");
        sea(1, "");
        finds(BEYOND, "kind", 1, 0, 1, 0);
        finds(BEYOND, "kind", 1, 0, 4, 0);
        finds(BEYOND, "kind", 1, 0, -1, 0);
        finds(BEYOND, "kind", 1, 0, LOW, 0);
        finds(BEYOND, "kind", 1, 0, HIGH, 0);
        finds(BEYOND, "kind", 1, 1, 0, 0);
        sentence(29, "BAD: of a ROLL, a SHIP that is none");
        for (int s = 0; s < 3; s++) {
            call("ship", s, 0, 1, 1, 0, 1);
        }
        bounds("kind", 1, 0, 2, 2, 0, 0, 0);
        sentence(29, "STATE: no such SHIP");
        refused(STATE, "kind", 2, 0, 0, 0);
        refused(STATE, "kind", 2, 2, 0, 0);
        sentence(29, "numbers that this BEAT does not ask for do not matter");
        harbour(0, "c3 m0:0 r0");
        call("ship", 0, 0, 1, 1, 0, 1);
        answers(1, "kind", 0, 0, 0, LOW);
        answers(3, "kind", 2, 0, HIGH, LOW);
    }

    private void kindOfRing() {
        sentence(29, "NOUGHT: a RING without a BEAT: no CROSSING, one");
        harbour(0, NONE_AT_0);
        harbour(1, ONCE_AT_4);
        finds(NOUGHT, "kind", 0, 0, 0, 0);
        finds(NOUGHT, "kind", 0, 1, 4, 0);
        sentence(29, "a RING of two CROSSINGS has a BEAT");
        harbour(0, TWICE_AT_1);
        due("it is refused", call("kind", 0, 0, 1, 0) < 0 ? 1 : 0, 0);
        sentence(29, "DYING: of the last 100 HEIGHTS none is above 100: loud behind SECOND 300 for the last time");
        harbour(0, "c11m1:5r1");
        answers(5, "kind", 0, 0, 3, 0);
        sentence(29, "DYING: of the last 100 HEIGHTS one is above: loud behind SECOND 301");
        harbour(0, "c7d0:6d4:7m0:4r1");
        answers(1, "kind", 0, 0, 4, 0);
        sentence(29, "DYING: 100 is not above 100");
        harbour(0, "c5d0:5d4:9d2:5d3:5d1:6m1:1r0");
        answers(5, "kind", 0, 0, 3, 0);
        sentence(29, "DYING: -100 is not below -100");
        harbour(0, "c13m1:4r1");
        answers(5, "kind", 0, 0, 8, 0);
        sentence(29, "a BASIN's that never dies");
        harbour(0, "c3 m1:0 r0");
        answers(1, "kind", 0, 0, 0, 0);
        sentence(29, "kind() tells nothing by asked(), upper(), lower()");
        harbour(0, "c3 m1:0 r0");
        call("about", 0, 0);
        answers(1, "kind", 0, 0, 0, 0);
        answers(3, "asked");
        answers(0, "upper");
        answers(1, "lower");
        sentence(29, "the NIGHT stays as it is");
        nightStays("kind", 0, 0, 0, 0);
    }

    private void met(int kind, int beat) {
        anew();
        harbour(0, TEN);
        sea(0, "p" + beat + ":1");
        due("a SET of " + beat, call("kind", 1, 0, 0, 0), kind);
    }

    private void kindOfSet() {
        sentence(29, "MET: no farther than 2 from the BASIN's BEAT, cut: below");
        met(4, 8);
        met(2, 7);
        sentence(29, "MET: no farther than 2 from the BASIN's BEAT, cut: above");
        met(4, 12);
        met(2, 13);
        sentence(29, "MET: at the BEAT itself");
        met(4, 10);
        sentence(29, "MET: far away, the least and the greatest BEAT");
        met(2, 2);
        met(2, 60);
        sentence(29, "whose RING by its MOUTH's CELL it may meet: not by another CELL");
        // by CELL 0 it beats 20, by the MOUTH's 7
        harbour(0, "c5m2:6");
        sea(0, "p20:1p7:1p9:1p10:1");
        answers(2, "kind", 1, 0, 0, 0);
        answers(4, "kind", 1, 0, 1, 0);
        answers(4, "kind", 1, 0, 2, 0);
        answers(2, "kind", 1, 0, 3, 0);
        sentence(29, "of a SET: then it is not MET, if the RING has no BEAT");
        // by CELL 0 it beats 21
        harbour(0, "c4m2:2r8");
        harbour(1, "c3w0");
        sea(0, "p21:1p2:1");
        finds(NOUGHT, "ring", 0, 2);
        answers(2, "kind", 1, 0, 0, 0);
        answers(2, "kind", 1, 0, 1, 0);
        answers(2, "kind", 1, 0, 1, 1);
        sentence(29, "MET, where only the RING by the MOUTH's CELL has a BEAT");
        harbour(0, TWICE_AT_1);
        sea(0, "p7:1");
        answers(4, "kind", 1, 0, 0, 0);
        sentence(29, "the last SET of four; the last SEA, HARBOUR");
        harbour(3, TEN);
        sea(3, "p2:1p3:1p4:1p10:1");
        answers(2, "kind", 1, 3, 0, 3);
        answers(4, "kind", 1, 3, 3, 3);
        finds(BEYOND, "kind", 1, 3, 4, 3);
        sentence(29, "a SET that pushes 0 has its BEAT, too");
        harbour(0, TEN);
        sea(0, "p10:0");
        answers(4, "kind", 1, 0, 0, 0);
    }

    private void kindOfRoll() {
        sentence(29, "of a ROLL (a SHIP): the first, the last one");
        call("ship", 0, 15, 9, 1, 30, 1);
        call("ship", 2, 15, 1, 9, 0, 1);
        answers(3, "kind", 2, 0, 0, 0);
        answers(3, "kind", 2, 2, 0, 0);
        refused(STATE, "kind", 2, 1, 0, 0);
    }

    private void markRefused() {
        sentence(30, "BAD: also KIND 0");
        harbour(0, "c3 m1:0 r0");
        refused(BAD, "mark", 0, 0, 0, 0, 0);
        sentence(30, "BAD: a KIND that is none");
        harbour(0, "c3 m1:0 r0");
        bounds("mark", 4, 1, 5, 0, 0, 0, 0, 1);
        sentence(30, "BAD: KIND 0 ahead of all else");
        refused(BAD, "mark", 0, 0, 0, 0, 0);
        refused(BAD, "mark", 2, 0, 0, 0, 0);
        refused(BAD, "mark", 1, 0, 0, 0, 6);
        sentence(30, "as kind(): BAD which");
        harbour(0, "c3 m1:0 r0");
        sea(0, "p5:5");
        call("ship", 0, 0, 1, 1, 0, 1);
        bounds("mark", 0, 0, 2, 0, 0, 0, 0, 1);
        sentence(30, "as kind(): BAD HARBOUR, CELL, SEA, SHIP");
        refused(BAD, "mark", 0, 4, 0, 0, 1);
        refused(BAD, "mark", 0, 0, -1, 0, 1);
        refused(BAD, "mark", 0, 0, 16, 0, 1);
        refused(BAD, "mark", 1, 4, 0, 0, 2);
        refused(BAD, "mark", 1, 0, 0, -1, 2);
        refused(BAD, "mark", 2, 3, 0, 0, 3);
        sentence(30, "as kind(): NOTHING");
        finds(NOTHING, "mark", 0, 0, 15, 0, 1);
        finds(NOTHING, "mark", 1, 0, -1, 0, 2);
        sea(0, "p5:5");
        finds(NOTHING, "mark", 1, 0, 0, 0, 2);
        sentence(30, "as kind(): BEYOND");
        harbour(0, "c3");
        sea(0, "p5:5");
        finds(BEYOND, "mark", 0, 0, 3, 0, 1);
        finds(BEYOND, "mark", 1, 0, 1, 0, 2);
        finds(BEYOND, "mark", 1, 0, LOW, 0, 2);
        sentence(30, "as kind(): STATE");
        refused(STATE, "mark", 2, 0, 0, 0, 3);
        sentence(30, "as kind(): NOUGHT");
        harbour(0, NONE_AT_0);
        finds(NOUGHT, "mark", 0, 0, 0, 0, 1);
        finds(NOUGHT, "mark", 0, 0, 0, 0, 5);
        sentence(30, "UNLIKE last: NOTHING, BEYOND, STATE, NOUGHT are ahead of it");
        finds(NOTHING, "mark", 0, 1, 0, 0, 3);
        refused(STATE, "mark", 2, 0, 0, 0, 1);
        harbour(0, NONE_AT_0);
        finds(BEYOND, "mark", 0, 0, 3, 0, 3);
        finds(NOUGHT, "mark", 0, 0, 0, 0, 3);
    }

    // A BEAT that is of these KINDS tells by them, and is UNLIKE by all others.
    private void alike(int which, int a, int b, int c, int... kinds) {
        for (int kind = 1; kind <= 5; kind++) {
            boolean is = false;
            for (int each : kinds) {
                is |= each == kind;
            }
            if (is) {
                due("KIND " + kind + " is refused", call("mark", which, a, b, c, kind) < 0 ? 1 : 0, 0);
            } else {
                finds(UNLIKE, "mark", which, a, b, c, kind);
            }
        }
    }

    private void markAs() {
        sentence(30, "a BEAT that IS of a KIND: a BASIN's");
        harbour(0, "c3 m1:0 r0");
        alike(0, 0, 0, 0, 1);
        sentence(30, "a BEAT that IS of a KIND: a DYING one is a BASIN's, too");
        harbour(0, "c11m1:5r1");
        alike(0, 0, 3, 0, 1, 5);
        sentence(30, "a BEAT that IS of a KIND: a SET's");
        harbour(0, TEN);
        sea(0, "p13:1");
        alike(1, 0, 0, 0, 2);
        sentence(30, "a BEAT that IS of a KIND: a MET one is a SET's, too");
        harbour(0, TEN);
        sea(0, "p12:1");
        alike(1, 0, 0, 0, 2, 4);
        sentence(30, "a BEAT that IS of a KIND: a SHIP's");
        call("ship", 0, 0, 1, 1, 0, 1);
        alike(2, 0, 0, 0, 3);
    }

    private void markTells() {
        sentence(30, "a BASIN's (DYING, too) its BEAT, cut");
        harbour(0, TEN);
        harbour(1, "c3 m1:0 r0");
        call("ring", 0, 3);
        long cut = call("upper") / call("lower");
        due("395/37, cut", cut, 10);
        answers(10, "mark", 0, 0, 3, 0, 1);
        answers(12, "mark", 0, 1, 0, 0, 1);
        sentence(30, "a SET's (MET, too) its BEAT: the least, the greatest, a MET one");
        harbour(0, TEN);
        sea(0, "p2:1p60:1p12:1");
        answers(2, "mark", 1, 0, 0, 0, 2);
        answers(60, "mark", 1, 0, 1, 0, 2);
        answers(12, "mark", 1, 0, 2, 0, 2);
        sentence(30, "a SHIP's its BEAT, cut");
        call("ship", 0, 3, 2, 3, 5, 60);
        tellsFraction(34, 129, 11, "roll", 0);
        answers(11, "mark", 2, 0, 0, 0, 3);
        sentence(30, "a MET one how far from the BASIN's BEAT, cut: 2, 1, 0, 2");
        harbour(0, TEN);
        sea(0, "p8:1p9:1p10:1p12:1");
        answers(2, "mark", 1, 0, 0, 0, 4);
        answers(1, "mark", 1, 0, 1, 0, 4);
        answers(0, "mark", 1, 0, 2, 0, 4);
        answers(2, "mark", 1, 0, 3, 0, 4);
        sentence(30, "a DYING one the last SECOND (1 .. 400): the first one");
        harbour(0, "c12m11:9r7");
        answers(1, "mark", 0, 0, 11, 0, 5);
        sentence(30, "a DYING one the last SECOND: 300 is the last that may be");
        harbour(0, "c11m1:5r1");
        answers(300, "mark", 0, 0, 3, 0, 5);
        harbour(0, "c7d0:6d4:7m0:4r1");
        finds(UNLIKE, "mark", 0, 0, 4, 0, 5);
        sentence(30, "above 100: 101 is, 100 is not");
        harbour(0, "c4m1:1r1");
        answers(133, "mark", 0, 0, 1, 0, 5);
        harbour(0, "c5d0:5d4:9d2:5d3:5d1:6m1:1r0");
        answers(271, "mark", 0, 0, 3, 0, 5);
        sentence(30, "below -100: -100 is not");
        harbour(0, "c13m1:4r1");
        answers(277, "mark", 0, 0, 8, 0, 5);
        sentence(30, "mark() tells nothing by asked(), upper(), lower()");
        harbour(0, TEN);
        call("about", 0, 0);
        answers(10, "mark", 0, 0, 3, 0, 1);
        answers(8, "asked");
        answers(0, "upper");
        answers(1, "lower");
        sentence(30, "the NIGHT stays as it is");
        nightStays("mark", 0, 0, 3, 0, 1);
    }
}
