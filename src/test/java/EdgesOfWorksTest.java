/** The edges of promises 39 to 45: WORKS, and what it was. */
public final class EdgesOfWorksTest extends Sentences {
    private static final String HARBOUR = "c5 d2:6 w3 m1:4 r1", SEA = "p9:80";

    public static void main(String[] args) {
        EdgesOfWorksTest t = new EdgesOfWorksTest();
        t.work();
        t.back();
        t.doesRefused();
        t.doesWalls();
        t.doesMouth();
        t.doesDepths();
        t.doesSeveral();
        t.worse();
        t.leastRefused();
        t.least();
        t.sinceRefused();
        t.since();
        t.whichRefused();
        t.which();
        t.end();
    }

    private void work() {
        sentence(39, "BAD: a kind that is none");
        bounds("work", 0, 0, 5, 0, 3, 3, 3);
        sentence(39, "BAD (k 0 .. 15)");
        bounds("work", 1, 0, 15, 0, 3, 3, 3);
        sentence(39, "BAD (v 0 .. 9)");
        bounds("work", 2, 0, 9, 0, 3, 3, 3);
        sentence(39, "BAD (cost 0 .. 99)");
        bounds("work", 3, 0, 99, 0, 3, 3, 3);
        sentence(39, "its number: 0 to 4; FULL: a sixth");
        for (int i = 0; i < 5; i++) {
            answers(i, "work", i, 15, 9, 99);
        }
        refused(FULL, "work", 5, 0, 0, 0);
        refused(FULL, "work", 0, 0, 0, 0);
        answers(5, "count", 3);
        sentence(39, "BAD ahead of FULL");
        for (int i = 0; i < 5; i++) {
            call("work", 0, 0, 0, 0);
        }
        refused(BAD, "work", 6, 0, 0, 0);
        refused(BAD, "work", 0, 16, 0, 0);
        refused(BAD, "work", 0, 0, 10, 0);
        refused(BAD, "work", 0, 0, 0, 100);
        sentence(39, "no longer FULL, when one went");
        for (int i = 0; i < 5; i++) {
            call("work", 0, 0, 0, 0);
        }
        answers(1, "back", 4);
        answers(4, "work", 0, 0, 0, 0);
        refused(FULL, "work", 0, 0, 0, 0);
    }

    private void back() {
        sentence(40, "n 0 to how many there are: then 0");
        for (int i = 0; i < 3; i++) {
            call("work", 0, 0, 0, 0);
        }
        answers(0, "back", 3);
        answers(3, "count", 3);
        sentence(40, "BAD: one more than there are, one below 0");
        for (int i = 0; i < 3; i++) {
            call("work", 0, 0, 0, 0);
        }
        refused(BAD, "back", 4);
        refused(BAD, "back", -1);
        refused(BAD, "back", LOW);
        refused(BAD, "back", HIGH);
        sentence(40, "no WORKS: 0 alone is not BAD");
        answers(0, "back", 0);
        refused(BAD, "back", 1);
        sentence(40, "of five: 5 is not BAD, 6 is");
        for (int i = 0; i < 5; i++) {
            call("work", 0, 0, 0, 0);
        }
        refused(BAD, "back", 6);
        answers(0, "back", 5);
        answers(5, "back", 0);
        answers(0, "count", 3);
        sentence(40, "WORKS from number n on go: those ahead stay, and are no others");
        call("work", 1, 2, 3, 4);
        call("work", 2, 3, 4, 5);
        long two = call("digest");
        call("work", 3, 4, 5, 6);
        call("work", 4, 5, 6, 7);
        answers(2, "back", 2);
        answers(two, "digest");
        sentence(40, "numbers go on from n");
        call("work", 1, 2, 3, 4);
        call("work", 2, 3, 4, 5);
        answers(1, "back", 1);
        answers(1, "work", 5, 5, 5, 5);
    }

    private void site() {
        harbour(0, HARBOUR);
        sea(0, SEA);
    }

    // A HARBOUR with WORKS is as quiet as one by such a TEXT, and it stays as it is.
    private void doneAs(String text, int set, int cost) {
        harbour(3, text);
        long quiet = call("quiet", 3, 0);
        long asItIs = call("digest");
        tells(quiet, cost, "does", 0, 0, set);
        answers(asItIs, "digest");
        due("as quiet as without WORKS", quiet == call("quiet", 0, 0) ? 1 : 0, text.equals(HARBOUR) ? 1 : 0);
    }

    /** One WORK by itself, which makes such a TEXT of the HARBOUR. */
    private void makes(String text, int kind, int k, int v) {
        anew();
        site();
        call("work", kind, k, v, 7);
        doneAs(text, 1, 7);
    }

    private void doesRefused() {
        sentence(41, "BAD: a HARBOUR that is none");
        site();
        bounds("does", 0, 0, 3, 0, 0, 0);
        sentence(41, "BAD: a SEA that is none");
        site();
        bounds("does", 1, 0, 3, 0, 0, 0);
        sentence(41, "BAD: also a set of WORKS that there are not: there are none");
        site();
        refused(BAD, "does", 0, 0, 1);
        refused(BAD, "does", 0, 0, 16);
        refused(BAD, "does", 0, 0, -1);
        sentence(41, "BAD: also a set of WORKS that there are not: there are five");
        site();
        for (int i = 0; i < 5; i++) {
            call("work", 0, 0, 0, 99);
        }
        bounds("does", 2, 0, 31, 0, 0, 0);
        tells(call("does", 0, 0, 31), 495, "does", 0, 0, 31);
        sentence(41, "BAD: a set of some that there are and one that there is not");
        site();
        call("work", 0, 0, 0, 0);
        call("work", 0, 0, 0, 0);
        refused(BAD, "does", 0, 0, 4);
        refused(BAD, "does", 0, 0, 7);
        call("back", 1);
        refused(BAD, "does", 0, 0, 2);
        sentence(41, "BAD ahead of NOTHING");
        refused(BAD, "does", 0, 0, 1);
        refused(BAD, "does", 4, 0, 0);
        refused(BAD, "does", 0, 4, 0);
        sentence(41, "NOTHING");
        harbour(0, HARBOUR);
        finds(NOTHING, "does", 0, 0, 0);
        anew();
        sea(0, SEA);
        finds(NOTHING, "does", 0, 0, 0);
        sentence(41, "a set of none: it is as it is, and costs 0");
        site();
        call("work", 2, 0, 5, 99);
        doneAs(HARBOUR, 0, 0);
        sentence(41, "woken: the NIGHT stays as it is");
        nightStays("does", 0, 0, 1);
    }

    private void doesWalls() {
        sentence(41, "0 a WALL more behind CELL k: the first, one in the middle");
        makes("c5 d2:6 w0 w3 m1:4 r1", 0, 0, 0);
        makes("c5 d2:6 w2 w3 m1:4 r1", 0, 2, 9);
        sentence(41, "0 a WALL more: the last one");
        harbour(0, "c5 m1:4");
        sea(0, SEA);
        call("work", 0, 3, 0, 1);
        harbour(1, "c5 m1:4 w3");
        tells(call("quiet", 1, 0), 1, "does", 0, 0, 1);
        sentence(41, "0 a WALL more: it is there already");
        makes(HARBOUR, 0, 3, 0);
        sentence(41, "0 a WALL that there is not does nothing: behind the last CELL, behind no CELL");
        makes(HARBOUR, 0, 4, 0);
        makes(HARBOUR, 0, 5, 0);
        makes(HARBOUR, 0, 15, 0);
        sentence(41, "1 one less there");
        makes("c5 d2:6 m1:4 r1", 1, 3, 0);
        sentence(41, "1 one less: there is none");
        makes(HARBOUR, 1, 2, 0);
        sentence(41, "1 a WALL that there is not does nothing: behind the last CELL, behind no CELL");
        makes(HARBOUR, 1, 4, 0);
        makes(HARBOUR, 1, 15, 0);
        sentence(41, "of sixteen CELLS the last WALL, and none behind it");
        harbour(0, "c16 m14:4");
        sea(0, SEA);
        call("work", 0, 14, 0, 1);
        call("work", 0, 15, 0, 2);
        harbour(1, "c16 m14:4 w14");
        long walled = call("quiet", 1, 0);
        tells(walled, 1, "does", 0, 0, 1);
        tells(call("quiet", 0, 0), 2, "does", 0, 0, 2);
    }

    private void doesMouth() {
        sentence(41, "2 the MOUTH by v wider (9 at most): just 9");
        makes("c5 d2:6 w3 m1:9 r1", 2, 0, 5);
        sentence(41, "2 the MOUTH by v wider (9 at most): more than that");
        makes("c5 d2:6 w3 m1:9 r1", 2, 0, 6);
        makes("c5 d2:6 w3 m1:9 r1", 2, 0, 9);
        sentence(41, "2 the MOUTH by v wider: by 1, by 0");
        makes("c5 d2:6 w3 m1:5 r1", 2, 0, 1);
        makes(HARBOUR, 2, 0, 0);
        sentence(41, "3 by v narrower (0 at least): just 0");
        makes("c5 d2:6 w3 m1:0 r1", 3, 0, 4);
        sentence(41, "3 by v narrower (0 at least): more than that");
        makes("c5 d2:6 w3 m1:0 r1", 3, 0, 5);
        makes("c5 d2:6 w3 m1:0 r1", 3, 0, 9);
        sentence(41, "3 by v narrower: by 3, by 0");
        makes("c5 d2:6 w3 m1:1 r1", 3, 0, 3);
        makes(HARBOUR, 3, 0, 0);
    }

    private void doesDepths() {
        sentence(41, "4 CELL k is deeper by v (9 at most): just 9, more than that");
        harbour(0, "c5 d1:6 d2:9 m1:4");
        sea(0, SEA);
        call("work", 4, 1, 3, 1);
        call("work", 4, 1, 4, 2);
        call("work", 4, 1, 9, 4);
        harbour(1, "c5 d1:9 d2:9 m1:4");
        long deep = call("quiet", 1, 0);
        due("as quiet as it was", call("quiet", 0, 0) == deep ? 1 : 0, 0);
        tells(deep, 1, "does", 0, 0, 1);
        tells(deep, 2, "does", 0, 0, 2);
        tells(deep, 4, "does", 0, 0, 4);
        sentence(41, "4 CELL k is deeper by v (9 at most): two CELLS side by side");
        harbour(0, "c5 m1:4");
        sea(0, SEA);
        call("work", 4, 1, 6, 1);
        call("work", 4, 2, 9, 2);
        harbour(1, "c5 d1:9 d2:9 m1:4");
        tells(call("quiet", 1, 0), 3, "does", 0, 0, 3);
        sentence(41, "5 shallower (1 at least): just 1, more than that");
        harbour(0, "c5 d2:6 m1:4");
        sea(0, SEA);
        call("work", 5, 2, 5, 1);
        call("work", 5, 2, 6, 2);
        call("work", 5, 2, 9, 4);
        harbour(1, "c5 d2:1 m1:4");
        long shallow = call("quiet", 1, 0);
        due("as quiet as it was", call("quiet", 0, 0) == shallow ? 1 : 0, 0);
        tells(shallow, 1, "does", 0, 0, 1);
        tells(shallow, 2, "does", 0, 0, 2);
        tells(shallow, 4, "does", 0, 0, 4);
        sentence(41, "4, 5 by v 0");
        makes(HARBOUR, 4, 2, 0);
        makes(HARBOUR, 5, 2, 0);
        sentence(41, "5 the first CELL");
        makes("c5 d0:1 d2:6 w3 m1:4 r1", 5, 0, 3);
        sentence(41, "4, 5 at a CELL that there is not does nothing");
        makes(HARBOUR, 4, 5, 9);
        makes(HARBOUR, 5, 5, 9);
        makes(HARBOUR, 4, 15, 9);
        makes(HARBOUR, 5, 15, 9);
        sentence(41, "5 the last CELL");
        harbour(0, "c5 m3:4");
        sea(0, SEA);
        call("work", 5, 4, 3, 1);
        harbour(1, "c5 d4:1 m3:4");
        tells(call("quiet", 1, 0), 1, "does", 0, 0, 1);
    }

    private void doesSeveral() {
        sentence(41, "Several are done by their numbers: wider, then narrower");
        site();
        call("work", 2, 0, 9, 1);
        call("work", 3, 0, 3, 2);
        doneAs("c5 d2:6 w3 m1:6 r1", 3, 3);
        sentence(41, "Several are done by their numbers: narrower, then wider");
        site();
        call("work", 3, 0, 9, 1);
        call("work", 2, 0, 3, 2);
        doneAs("c5 d2:6 w3 m1:3 r1", 3, 3);
        sentence(41, "Several are done by their numbers: a WALL less, then more");
        site();
        call("work", 1, 3, 0, 1);
        call("work", 0, 3, 0, 2);
        doneAs(HARBOUR, 3, 3);
        sentence(41, "Several are done by their numbers: a WALL more, then less");
        site();
        call("work", 0, 3, 0, 1);
        call("work", 1, 3, 0, 2);
        doneAs("c5 d2:6 m1:4 r1", 3, 3);
        sentence(41, "of a set (bits): the last of five alone, and what it costs");
        site();
        for (int i = 0; i < 4; i++) {
            call("work", 0, 0, 0, 99);
        }
        call("work", 2, 0, 5, 8);
        doneAs("c5 d2:6 w3 m1:9 r1", 16, 8);
        sentence(41, "what they cost: nothing, all");
        site();
        for (int i = 0; i < 5; i++) {
            call("work", 1, 0, 0, i == 4 ? 0 : 99);
        }
        doneAs(HARBOUR, 16, 0);
        doneAs(HARBOUR, 31, 396);
    }

    private void worse() {
        sentence(42, "BAD: a HARBOUR that is none");
        site();
        bounds("worse", 0, 0, 3, 0, 0);
        sentence(42, "BAD: a SEA that is none");
        site();
        bounds("worse", 1, 0, 3, 0, 0);
        sentence(42, "BAD ahead of NOTHING");
        refused(BAD, "worse", 4, 0);
        refused(BAD, "worse", 0, -1);
        sentence(42, "NOTHING");
        harbour(0, HARBOUR);
        finds(NOTHING, "worse", 0, 0);
        anew();
        sea(0, SEA);
        finds(NOTHING, "worse", 0, 0);
        sentence(42, "no WORKS: none");
        site();
        tells(0, 0, "worse", 0, 0);
        sentence(42, "makes QUIET greater; less: alike is neither");
        site();
        call("work", 0, 3, 0, 0);
        call("work", 2, 0, 0, 0);
        call("work", 4, 15, 9, 0);
        tells(0, 0, "worse", 0, 0);
        sentence(42, "those that make it less by asked(): the fifth alone");
        site();
        for (int i = 0; i < 4; i++) {
            call("work", 0, 15, 0, 0);
        }
        call("work", 3, 0, 9, 0);
        tells(0, 16, "worse", 0, 0);
        sentence(42, "makes QUIET greater: the fifth alone");
        harbour(0, "c5 m1:0");
        sea(0, SEA);
        for (int i = 0; i < 4; i++) {
            call("work", 0, 15, 0, 0);
        }
        call("work", 2, 0, 9, 0);
        tells(16, 0, "worse", 0, 0);
        sentence(42, "each of which, alone: not with what is ahead of it");
        harbour(0, "c5 m1:0");
        sea(0, SEA);
        call("work", 2, 0, 9, 0);
        call("work", 3, 0, 9, 0);
        call("work", 2, 0, 1, 0);
        tells(5, 0, "worse", 0, 0);
        sentence(42, "woken: the NIGHT stays as it is");
        nightStays("worse", 0, 0);
    }

    private void leastRefused() {
        sentence(43, "BAD: a HARBOUR that is none");
        site();
        bounds("least", 0, 0, 3, 0, 0, 0);
        sentence(43, "BAD: a SEA that is none");
        site();
        bounds("least", 1, 0, 3, 0, 0, 0);
        sentence(43, "BAD: c (0 .. 500)");
        site();
        bounds("least", 2, 0, 500, 0, 0, 0);
        sentence(43, "BAD ahead of NOTHING");
        refused(BAD, "least", 0, 0, 501);
        refused(BAD, "least", 0, 0, -1);
        refused(BAD, "least", 4, 0, 0);
        sentence(43, "NOTHING");
        harbour(0, HARBOUR);
        finds(NOTHING, "least", 0, 0, 0);
        anew();
        sea(0, SEA);
        finds(NOTHING, "least", 0, 0, 0);
    }

    private void least() {
        sentence(43, "no WORKS: the set of none");
        site();
        tells(0, call("quiet", 0, 0), "least", 0, 0, 500);
        sentence(43, "that cost c together at most: just as much, one too many");
        site();
        call("work", 3, 0, 9, 10);
        tells(1, 0, "least", 0, 0, 10);
        long quiet = call("quiet", 0, 0);
        tells(0, quiet, "least", 0, 0, 9);
        sentence(43, "together: two that cost too much together");
        site();
        call("work", 3, 0, 2, 10);
        call("work", 3, 0, 2, 10);
        tells(3, 0, "least", 0, 0, 20);
        quiet = call("does", 0, 0, 1);
        tells(1, quiet, "least", 0, 0, 19);
        sentence(43, "c 0: those that cost nothing");
        site();
        call("work", 3, 0, 9, 1);
        call("work", 3, 0, 9, 0);
        tells(2, 0, "least", 0, 0, 0);
        sentence(43, "c 500: all five, if need be");
        harbour(0, "c5 m1:5");
        sea(0, SEA);
        for (int i = 0; i < 5; i++) {
            call("work", 3, 0, 1, 99);
        }
        tells(31, 0, "least", 0, 0, 500);
        tells(31, 0, "least", 0, 0, 495);
        quiet = call("does", 0, 0, 15);
        tells(15, quiet, "least", 0, 0, 494);
        sentence(43, "of alike ones the cheapest");
        site();
        call("work", 3, 0, 9, 10);
        call("work", 3, 0, 9, 9);
        tells(2, 0, "least", 0, 0, 500);
        sentence(43, "of alike ones the cheapest, then the least bits");
        site();
        call("work", 3, 0, 9, 9);
        call("work", 3, 0, 9, 9);
        tells(1, 0, "least", 0, 0, 500);
        sentence(43, "then the least bits: what does nothing for nothing is left out");
        site();
        call("work", 2, 0, 0, 0);
        call("work", 3, 0, 9, 5);
        call("work", 2, 0, 0, 0);
        tells(2, 0, "least", 0, 0, 500);
        sentence(43, "the cheapest ahead of the least bits: two for less than one");
        site();
        call("work", 3, 0, 9, 9);
        call("work", 3, 0, 2, 4);
        call("work", 3, 0, 2, 4);
        tells(6, 0, "least", 0, 0, 500);
        sentence(43, "none, if all make it worse");
        harbour(0, "c5 m1:0");
        sea(0, SEA);
        call("work", 2, 0, 9, 0);
        call("work", 2, 0, 5, 0);
        tells(0, 0, "least", 0, 0, 500);
        sentence(43, "woken: the NIGHT stays as it is");
        nightStays("least", 0, 0, 500);
    }

    // HEIGHTS of CELL 0: 16 22 23, with a WALL behind it 16 24 28; of CELL 1: 0 4 11, with that WALL 0 0 0.
    private void float3() {
        harbour(0, "c3 m0:8 r0");
        sea(0, "p10:32");
    }

    private void sinceRefused() {
        sentence(44, "BAD: a HARBOUR, a SEA, a ROW that is none");
        float3();
        row(0, 1);
        bounds("since", 0, 0, 3, 0, 0, 0, 0, 0);
        bounds("since", 1, 0, 3, 0, 0, 0, 0, 0);
        bounds("since", 4, 0, 5, 0, 0, 0, 0, 0);
        sentence(44, "BAD (CELLS 0 .. 15)");
        harbour(0, "c16");
        sea(0, "");
        row(0, 1);
        bounds("since", 2, 0, 15, 0, 0, 0, 0, 0);
        bounds("since", 3, 0, 15, 0, 0, 0, 0, 0);
        sentence(44, "BAD ahead of NOTHING");
        refused(BAD, "since", 0, 0, 16, 0, 0);
        refused(BAD, "since", 0, 0, 0, -1, 0);
        refused(BAD, "since", 0, 0, 0, 0, 6);
        sentence(44, "NOTHING: any");
        float3();
        row(0, 1);
        finds(NOTHING, "since", 1, 0, 0, 0, 0);
        finds(NOTHING, "since", 0, 1, 0, 0, 0);
        finds(NOTHING, "since", 0, 0, 0, 0, 1);
        sentence(44, "NOTHING ahead of SIZE");
        harbour(0, "c3");
        row(0);
        finds(NOTHING, "since", 0, 0, 0, 0, 0);
        sentence(44, "SIZE: a ROW of none");
        float3();
        row(0);
        finds(SIZE, "since", 0, 0, 0, 0, 0);
        sentence(44, "SIZE ahead of BEYOND");
        float3();
        row(0);
        finds(SIZE, "since", 0, 0, 3, 0, 0);
        finds(SIZE, "since", 0, 0, 0, 2, 0);
        sentence(44, "BEYOND: no such CELL");
        float3();
        row(0, 1);
        finds(BEYOND, "since", 0, 0, 3, 0, 0);
        finds(BEYOND, "since", 0, 0, 15, 0, 0);
        due("the last CELL is refused", call("since", 0, 0, 2, 0, 0) < 0 ? 1 : 0, 0);
        sentence(44, "BEYOND: no such WALL, behind the last CELL, behind no CELL");
        float3();
        row(0, 1);
        finds(BEYOND, "since", 0, 0, 0, 2, 0);
        finds(BEYOND, "since", 0, 0, 0, 3, 0);
        finds(BEYOND, "since", 0, 0, 0, 15, 0);
        due("the last WALL is refused", call("since", 0, 0, 0, 1, 0) < 0 ? 1 : 0, 0);
        sentence(44, "BEYOND: no such WALL of sixteen CELLS");
        harbour(0, "c16");
        sea(0, "");
        row(0, 1);
        finds(BEYOND, "since", 0, 0, 15, 15, 0);
        tells(0, 0, "since", 0, 0, 15, 14, 0);
        sentence(44, "BEYOND ahead of UNLIKE");
        float3();
        row(0, 10001);
        finds(BEYOND, "since", 0, 0, 3, 0, 0);
        finds(BEYOND, "since", 0, 0, 0, 2, 0);
        sentence(44, "UNLIKE: a number above 10000, below -10000");
        float3();
        row(0, 10001);
        finds(UNLIKE, "since", 0, 0, 0, 0, 0);
        row(0, -10001);
        finds(UNLIKE, "since", 0, 0, 0, 0, 0);
        row(0, HIGH);
        finds(UNLIKE, "since", 0, 0, 0, 0, 0);
        row(0, LOW);
        finds(UNLIKE, "since", 0, 0, 0, 0, 0);
        sentence(44, "UNLIKE: the last of sixty");
        float3();
        call("row", 0, 60);
        call("lay", 0, 59, 10001);
        finds(UNLIKE, "since", 0, 0, 0, 0, 0);
        call("lay", 0, 59, 10000);
        due("10000 is refused", call("since", 0, 0, 0, 0, 0) < 0 ? 1 : 0, 0);
    }

    private void since() {
        sentence(44, "numbers, -10000 .. 10000: the greatest, the least");
        float3();
        row(0, 10000, -10000);
        tells(0, 2, "since", 0, 0, 0, 0, 0);
        sentence(44, "0: it is no more OFF by the HARBOUR as it is");
        float3();
        row(0, 16, 22, 23);
        tells(0, 7, "since", 0, 0, 0, 0, 0);
        sentence(44, "0: it is no more OFF: alike");
        float3();
        row(0, 16);
        tells(0, 0, "since", 0, 0, 0, 0, 0);
        row(0, 16, 23);
        tells(0, 0, "since", 0, 0, 0, 0, 0);
        sentence(44, "1: more");
        float3();
        row(0, 16, 24, 28);
        tells(1, 7, "since", 0, 0, 0, 0, 0);
        row(0, 16, 24);
        tells(1, 2, "since", 0, 0, 0, 0, 0);
        sentence(44, "how far it is off, all together: too high and too low are both OFF");
        float3();
        row(0, 0, 2, 0);
        tells(1, 11, "since", 0, 0, 1, 0, 0);
        row(0, 0, 2, 20);
        tells(0, 11, "since", 0, 0, 1, 0, 0);
        sentence(44, "a WALL more: it is there already");
        harbour(0, "c3 w0 m0:8");
        sea(0, "p10:32");
        row(0, 5, -5);
        tells(0, 0, "since", 0, 0, 1, 0, 0);
        sentence(44, "1 to 60 numbers: sixty, all far OFF");
        float3();
        row(0, filled(60, 10000));
        due("it is refused", call("since", 0, 0, 0, 0, 0) < 0 ? 1 : 0, 0);
        sentence(44, "behind the first SECONDS of a NIGHT: as gauge() tells them");
        float3();
        call("night", 0, 0);
        call("gauge", 2, 60, 0);
        call("since", 0, 0, 2, 1, 0);
        due("it stays 0", call("since", 0, 0, 2, 1, 0), 0);
        harbour(1, "c3 w1 m0:8 r0");
        call("night", 1, 0);
        call("gauge", 0, 60, 1);
        due("it is 1", call("since", 0, 0, 0, 1, 1), 1);
        sentence(44, "a SHIP at a CELL that it has not does not matter; the HARBOUR stays as it is");
        float3();
        call("ship", 0, 15, 1, 1, 0, 1);
        row(0, 16, 24, 28);
        long before = call("digest");
        tells(1, 7, "since", 0, 0, 0, 0, 0);
        answers(before, "digest");
        sentence(44, "the NIGHT stays as it is");
        nightStays("since", 0, 0, 3, 3, 0);
    }

    private void whichRefused() {
        sentence(45, "BAD: a HARBOUR, a ROW that is none");
        float3();
        row(0, 1);
        bounds("which", 0, 0, 3, 0, 0, 0);
        bounds("which", 2, 0, 5, 0, 0, 0);
        sentence(45, "BAD: a CELL that is none (0 .. 15)");
        harbour(0, "c16");
        sea(0, "");
        row(0, 1);
        bounds("which", 1, 0, 15, 0, 0, 0);
        sentence(45, "BAD ahead of NOTHING");
        refused(BAD, "which", 4, 0, 0);
        refused(BAD, "which", 0, 16, 0);
        refused(BAD, "which", 0, 0, 6);
        sentence(45, "NOTHING: the HARBOUR, the ROW");
        float3();
        row(0, 1);
        finds(NOTHING, "which", 1, 0, 0);
        finds(NOTHING, "which", 0, 0, 1);
        sentence(45, "NOTHING: no SEA");
        harbour(0, "c3");
        row(0, 1);
        finds(NOTHING, "which", 0, 0, 0);
        sentence(45, "NOTHING ahead of SIZE");
        harbour(0, "c3");
        row(0);
        finds(NOTHING, "which", 0, 0, 0);
        sentence(45, "SIZE: a ROW of none, ahead of BEYOND");
        float3();
        row(0);
        finds(SIZE, "which", 0, 0, 0);
        finds(SIZE, "which", 0, 3, 0);
        sentence(45, "BEYOND: no such CELL, ahead of UNLIKE");
        float3();
        row(0, 10001);
        finds(BEYOND, "which", 0, 3, 0);
        finds(BEYOND, "which", 0, 15, 0);
        sentence(45, "UNLIKE");
        float3();
        row(0, 0, 10001);
        finds(UNLIKE, "which", 0, 0, 0);
        row(0, -10001, 0);
        finds(UNLIKE, "which", 0, 0, 0);
        row(0, 10000, -10000);
        due("it is refused", call("which", 0, 0, 0) < 0 ? 1 : 0, 0);
    }

    private void which() {
        sentence(45, "Of SEAS that there are: the last one alone");
        harbour(0, "c3 m0:8 r0");
        sea(3, "p10:32");
        row(0, 16, 22, 23);
        tells(3, 0, "which", 0, 0, 0);
        sentence(45, "least OFF, be it first or last");
        harbour(0, "c3 m0:8 r0");
        sea(0, "p10:32");
        sea(3, "");
        row(0, 16, 22, 23);
        tells(0, 0, "which", 0, 0, 0);
        row(0, 0, 1, -1);
        tells(3, 2, "which", 0, 0, 0);
        sentence(45, "of alike ones the first");
        harbour(0, "c3 m0:8 r0");
        sea(1, "");
        sea(2, "p10:32");
        sea(3, "p12:32");
        row(0, 16, 22, 23);
        tells(2, 0, "which", 0, 0, 0);
        sentence(45, "of alike ones the first: as far OFF above as below");
        harbour(0, "c3 m0:8 r0");
        sea(0, "p10:32");
        sea(1, "");
        row(0, 8);
        tells(0, 8, "which", 0, 0, 0);
        sentence(45, "how far: the greatest numbers, all sixty");
        harbour(0, "c3 m0:0");
        sea(0, "p10:32");
        row(0, filled(60, 10000));
        tells(0, 600000, "which", 0, 0, 0);
        sentence(45, "how far: the least numbers, all sixty");
        harbour(0, "c3 m0:0");
        sea(0, "p10:32");
        row(0, filled(60, -10000));
        tells(0, 600000, "which", 0, 0, 0);
        sentence(45, "the last CELL");
        float3();
        row(0, 0, 0, 1);
        tells(0, 0, "which", 0, 2, 0);
        sentence(45, "the NIGHT stays as it is");
        nightStays("which", 0, 3, 0);
    }
}
