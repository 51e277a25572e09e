/** The edges of promises 31 to 38: what wakes it, and SHIPS. "Woken" is held to its 300 SECONDS from both sides. */
public final class EdgesOfWakingTest extends Sentences {
    public static void main(String[] args) {
        EdgesOfWakingTest t = new EdgesOfWakingTest();
        t.quiet();
        t.still();
        t.wakes();
        t.pullRefused();
        t.pull();
        t.tightRefused();
        t.tight();
        t.whereRefused();
        t.where();
        t.tonightRefused();
        t.tonight();
        t.tonightAlike();
        t.again();
        t.oddsRefused();
        t.odds();
        t.end();
    }

    private void woken(String harbour, String sea) {
        anew();
        harbour(0, harbour);
        sea(0, sea);
    }

    private void refusedHarbourAndSea(int promise, String name, int harbourAt, int... a) {
        sentence(promise, "BAD: a HARBOUR that is none");
        setUp();
        bounds(name, harbourAt, 0, 3, a);
        sentence(promise, "BAD: a SEA that is none");
        setUp();
        bounds(name, harbourAt + 1, 0, 3, a);
        sentence(promise, "NOTHING: the HARBOUR, the SEA");
        int[] b = a.clone();
        setUp();
        b[harbourAt] = 1;
        finds(NOTHING, name, b);
        b[harbourAt] = 0;
        b[harbourAt + 1] = 1;
        finds(NOTHING, name, b);
        sentence(promise, "BAD ahead of NOTHING");
        b[harbourAt] = 4;
        b[harbourAt + 1] = 0;
        refused(BAD, name, b);
        b[harbourAt] = 0;
        b[harbourAt + 1] = -1;
        refused(BAD, name, b);
        sentence(promise, "woken: the NIGHT stays as it is");
        nightStays(name, a);
    }

    private void setUp() {
        harbour(0, "c3 m0:8 r0");
        sea(0, "p10:32");
        call("ship", 0, 1, 1, 2, 0, 5);
    }

    private void quiet() {
        refusedHarbourAndSea(31, "quiet", 0, 0, 0);
        sentence(31, "woken: gone through for 300 SECONDS, not fewer");
        woken("c12", "p58:12");
        due("quiet", call("quiet", 0, 0), 54);
        sentence(31, "woken: gone through for 300 SECONDS, not more");
        woken("c15", "p31:92");
        due("quiet", call("quiet", 0, 0), 260);
        sentence(31, "woken: as a NIGHT that is begun and goes 300 SECONDS");
        woken("c6 d3:7 m0:5 r1", "p14:30 p20:50");
        call("night", 0, 0);
        call("go", 300);
        call("cell", 2, 2);
        tells(call("asked"), 2, "quiet", 0, 0);
        sentence(31, "the CELL of the greatest RANGE: the last one");
        woken("c3", "p46:42");
        tells(98, 2, "quiet", 0, 0);
        sentence(31, "of alike ones the first");
        woken("c4", "p34:9");
        tells(23, 1, "quiet", 0, 0);
        sentence(31, "of alike ones the first: nothing moves");
        woken("c16 m5:0", "p34:99");
        tells(0, 0, "quiet", 0, 0);
        sentence(31, "QUIET of a SEA without SETS is 0");
        woken("c3", "");
        tells(0, 0, "quiet", 0, 0);
        sentence(31, "a SHIP at a CELL that it has not does not matter");
        woken("c3", "p46:42");
        call("ship", 0, 15, 1, 1, 0, 1);
        tells(98, 2, "quiet", 0, 0);
        sentence(31, "the last HARBOUR, the last SEA");
        harbour(3, "c3");
        sea(3, "p46:42");
        tells(98, 2, "quiet", 3, 3);
    }

    private void still() {
        refusedHarbourAndSea(32, "still", 0, 0, 0);
        sentence(32, "woken: gone through for 300 SECONDS, not fewer");
        woken("c4r3", "p30:94");
        tells(0, 67, "still", 0, 0);
        sentence(32, "woken: gone through for 300 SECONDS, not more");
        woken("c3m1:1", "p43:61");
        tells(0, 36, "still", 0, 0);
        sentence(32, "The CELL of the least RANGE: the last one");
        woken("c3", "p6:31");
        tells(2, 15, "still", 0, 0);
        sentence(32, "of alike ones the first");
        woken("c5", "p2:73");
        tells(1, 13, "still", 0, 0);
        sentence(32, "of alike ones the first: nothing moves behind a WALL");
        woken("c6 w2 m0:9", "p20:50");
        tells(3, 0, "still", 0, 0);
        woken("c6 w2 m5:9", "p20:50");
        tells(0, 0, "still", 0, 0);
    }

    private void wakes() {
        sentence(33, "BAD");
        harbour(0, "c3");
        harbour(3, "c3");
        sea(0, "");
        bounds("wakes", 0, 0, 3, 0);
        sentence(33, "BAD ahead of NOTHING");
        refused(BAD, "wakes", 4);
        refused(BAD, "wakes", -1);
        sentence(33, "NOTHING: the HARBOUR");
        sea(0, "p5:5");
        finds(NOTHING, "wakes", 0);
        sentence(33, "NOTHING: no SEA");
        harbour(0, "c3");
        finds(NOTHING, "wakes", 0);
        sentence(33, "Of SEAS that there are: the last one alone");
        harbour(0, "c3");
        sea(3, "p46:42");
        tells(3, 98, "wakes", 0);
        sentence(33, "Of SEAS that there are: one without SETS alone");
        harbour(0, "c3");
        sea(2, "");
        tells(2, 0, "wakes", 0);
        sentence(33, "the greatest QUIET, be it first or last");
        harbour(0, "c3");
        sea(0, "p46:42");
        sea(3, "p46:10");
        tells(0, 98, "wakes", 0);
        sea(0, "p46:10");
        sea(3, "p46:42");
        tells(3, 98, "wakes", 0);
        sentence(33, "the first of alike ones");
        harbour(0, "c3");
        sea(3, "p46:42");
        sea(2, "p46:42");
        sea(1, "p46:42");
        sea(0, "p46:41");
        tells(1, 98, "wakes", 0);
        sentence(33, "the first of alike ones: nothing moves");
        harbour(0, "c3 m0:0");
        sea(1, "p46:42");
        sea(2, "p6:99");
        tells(1, 0, "wakes", 0);
        sentence(33, "woken: the NIGHT stays as it is");
        nightStays("wakes", 0);
    }

    private void pullRefused() {
        refusedHarbourAndSea(34, "pull", 1, 0, 0, 0);
        sentence(34, "BAD: a SHIP that is none");
        setUp();
        bounds("pull", 0, 0, 2, 0, 0, 0);
        sentence(34, "BAD ahead of STATE");
        refused(BAD, "pull", 0, 4, 0);
        refused(BAD, "pull", 0, 0, 4);
        sentence(34, "STATE: no such SHIP");
        setUp();
        refused(STATE, "pull", 1, 0, 0);
        sentence(34, "STATE ahead of NOTHING");
        refused(STATE, "pull", 0, 0, 0);
        sentence(34, "NOTHING ahead of BEYOND");
        harbour(0, "c3");
        call("ship", 0, 15, 1, 1, 0, 1);
        finds(NOTHING, "pull", 0, 0, 0);
        sentence(34, "BEYOND: no such CELL");
        setUp();
        call("ship", 0, 3, 1, 1, 0, 1);
        finds(BEYOND, "pull", 0, 0, 0);
        call("ship", 0, 15, 1, 1, 0, 1);
        finds(BEYOND, "pull", 0, 0, 0);
        call("ship", 0, 2, 1, 1, 0, 1);
        due("at the last CELL it is refused", call("pull", 0, 0, 0) < 0 ? 1 : 0, 0);
    }

    private void pull() {
        sentence(34, "woken: gone through for 300 SECONDS, not fewer; her lines PART in the last one");
        woken("c6", "p45:71");
        call("ship", 0, 4, 3, 9, 17, 279);
        tells(306, 299, "pull", 0, 0, 0);
        sentence(34, "woken: gone through for 300 SECONDS, not more");
        woken("c9m5:6", "p60:28");
        call("ship", 0, 8, 4, 1, 10, 12);
        tells(12, NONE, "pull", 0, 0, 0);
        sentence(34, "the SECOND in which her lines PART (NONE): just strong enough");
        woken("c6", "p45:71");
        call("ship", 0, 4, 3, 9, 17, 306);
        tells(306, NONE, "pull", 0, 0, 0);
        sentence(34, "the SECOND in which her lines PART: just not");
        woken("c6", "p45:71");
        call("ship", 0, 4, 3, 9, 17, 305);
        tells(306, 299, "pull", 0, 0, 0);
        sentence(34, "the SECOND in which her lines PART: the first one");
        woken("c6", "p45:71");
        call("ship", 0, 4, 3, 9, 17, 115);
        tells(306, 35, "pull", 0, 0, 0);
        sentence(34, "the others not there: at a CELL that it has not");
        woken("c6", "p45:71");
        call("ship", 0, 15, 1, 1, 0, 1);
        call("ship", 1, 4, 3, 9, 17, 115);
        call("ship", 2, 6, 1, 1, 0, 1);
        tells(306, 35, "pull", 1, 0, 0);
        sentence(34, "PULL 0: nothing moves");
        woken("c3", "");
        call("ship", 0, 2, 1, 9, 0, 1);
        tells(0, NONE, "pull", 0, 0, 0);
    }

    private void tightRefused() {
        refusedHarbourAndSea(35, "tight", 1, 0, 0, 0);
        sentence(35, "BAD: a SHIP that is none");
        setUp();
        bounds("tight", 0, 0, 2, 0, 0, 0);
        sentence(35, "BAD ahead of STATE");
        refused(BAD, "tight", 0, 4, 0);
        refused(BAD, "tight", 0, 0, 4);
        sentence(35, "STATE");
        setUp();
        refused(STATE, "tight", 2, 0, 0);
        sentence(35, "STATE ahead of NOTHING");
        refused(STATE, "tight", 0, 0, 0);
        sentence(35, "NOTHING ahead of BEYOND");
        sea(0, "");
        call("ship", 0, 15, 1, 1, 0, 1);
        finds(NOTHING, "tight", 0, 0, 0);
        sentence(35, "BEYOND");
        setUp();
        call("ship", 0, 3, 1, 1, 0, 1);
        finds(BEYOND, "tight", 0, 0, 0);
    }

    private void tight() {
        sentence(35, "The TIGHTNESS (1 .. 9): the least one");
        woken("c4", "p9:29");
        call("ship", 0, 3, 1, 6, 2, 76);
        tells(1, 32, "tight", 0, 0, 0);
        sentence(35, "The TIGHTNESS (1 .. 9): the greatest one");
        woken("c7", "p49:54");
        call("ship", 0, 5, 9, 4, 18, 64);
        tells(9, 126, "tight", 0, 0, 0);
        sentence(35, "of alike ones the least");
        // by 1, 2, 3, .. PULL is 35, 20, 24, 20, 75, 84, 35, 40, 117
        woken("c4", "p59:16");
        call("ship", 0, 3, 1, 1, 30, 186);
        tells(2, 20, "tight", 0, 0, 0);
        sentence(35, "of alike ones the least: nothing moves");
        woken("c3", "");
        call("ship", 0, 2, 1, 9, 0, 1);
        tells(1, 0, "tight", 0, 0, 0);
        sentence(35, "else as she is: she stays so, too");
        woken("c4", "p9:29");
        call("ship", 0, 3, 1, 6, 2, 76);
        long before = call("digest");
        call("tight", 0, 0, 0);
        answers(before, "digest");
        sentence(35, "how tight her lines are now does not matter");
        for (int tight = 1; tight <= 9; tight++) {
            woken("c4", "p59:16");
            call("ship", 0, 3, 1, tight, 30, 1);
            tells(2, 20, "tight", 0, 0, 0);
        }
        sentence(35, "that PULL is hers, were she so tight");
        woken("c4", "p59:16");
        call("ship", 0, 3, 1, 2, 30, 186);
        tells(20, NONE, "pull", 0, 0, 0);
    }

    private void whereRefused() {
        refusedHarbourAndSea(36, "where", 1, 0, 0, 0);
        sentence(36, "BAD: a SHIP that is none");
        setUp();
        bounds("where", 0, 0, 2, 0, 0, 0);
        sentence(36, "BAD ahead of STATE");
        refused(BAD, "where", 0, 4, 0);
        refused(BAD, "where", 0, 0, 4);
        sentence(36, "STATE");
        setUp();
        refused(STATE, "where", 1, 0, 0);
        sentence(36, "STATE ahead of NOTHING");
        refused(STATE, "where", 0, 0, 0);
        sentence(36, "no BEYOND: her own CELL may be one that it has not");
        woken("c4", "p32:75");
        call("ship", 0, 15, 1, 4, 4, 85);
        tells(3, 92, "where", 0, 0, 0);
    }

    private void where() {
        sentence(36, "The CELL of the least PULL: the last one");
        woken("c4", "p32:75");
        call("ship", 0, 0, 1, 4, 4, 85);
        tells(3, 92, "where", 0, 0, 0);
        sentence(36, "of alike ones the first");
        woken("c8", "p49:72");
        call("ship", 0, 7, 1, 2, 0, 20);
        tells(0, 98, "where", 0, 0, 0);
        sentence(36, "of alike ones the first: nothing moves");
        woken("c16", "");
        call("ship", 0, 15, 1, 9, 0, 1);
        tells(0, 0, "where", 0, 0, 0);
        sentence(36, "of alike ones the first: behind a WALL");
        woken("c6 w2 m0:9", "p20:50");
        call("ship", 0, 0, 1, 9, 0, 1);
        tells(3, 0, "where", 0, 0, 0);
        sentence(36, "else as she is: she stays so, too");
        woken("c4", "p32:75");
        call("ship", 0, 0, 1, 4, 4, 85);
        long before = call("digest");
        call("where", 0, 0, 0);
        answers(before, "digest");
        sentence(36, "the others not there: she may lie where another one does");
        woken("c4", "p32:75");
        call("ship", 0, 0, 1, 4, 4, 85);
        call("ship", 1, 3, 1, 4, 4, 85);
        tells(3, 92, "where", 0, 0, 0);
        sentence(36, "that PULL is hers, were she there");
        woken("c4", "p32:75");
        call("ship", 0, 3, 1, 4, 4, 85);
        due("pull", call("pull", 0, 0, 0), 92);
    }

    private void tonightRefused() {
        refusedHarbourAndSea(37, "tonight", 0, 0, 0, 2);
        sentence(37, "BAD: a ROW that is none");
        setUp();
        bounds("tonight", 2, 0, 5, 0, 0, 0);
        sentence(37, "BAD ahead of NOTHING, STATE");
        refused(BAD, "tonight", 0, 0, 6);
        refused(BAD, "tonight", 0, 0, -1);
        sentence(37, "NOTHING ahead of STATE");
        harbour(0, "c3");
        finds(NOTHING, "tonight", 0, 0, 0);
        anew();
        sea(0, "");
        finds(NOTHING, "tonight", 0, 0, 0);
        sentence(37, "STATE: no SHIP; the ROW stays");
        woken("c3", "p10:32");
        row(0, 4, 5);
        refused(STATE, "tonight", 0, 0, 0);
        sentence(37, "STATE: no SHIP any more");
        setUp();
        call("leave", 0);
        refused(STATE, "tonight", 0, 0, 0);
        sentence(37, "a SHIP whose own CELL it has not lies at another one");
        woken("c3", "");
        call("ship", 0, 15, 1, 1, 0, 1);
        tells(0, 0, "tonight", 0, 0, 0);
        holds(0, 0);
    }

    private void tonight() {
        sentence(37, "each at another CELL, though both are best at one");
        woken("c5", "p17:69");
        call("ship", 0, 0, 6, 4, 14, 65);
        call("ship", 1, 0, 5, 6, 16, 96);
        due("where(0)", call("where", 0, 0, 0), 0);
        due("where(1)", call("where", 1, 0, 0), 0);
        tells(0, 56, "tonight", 0, 0, 3);
        holds(3, 4, 0);
        sentence(37, "fewest lines PART, then all PULLS together: not the least PULLS first");
        woken("c7", "p55:78");
        call("ship", 0, 0, 6, 1, 13, 34);
        call("ship", 1, 0, 5, 5, 21, 101);
        tells(1, 208, "tonight", 0, 0, 3);
        holds(3, 5, 6);
        sentence(37, "how many PART: all");
        woken("c6", "p25:80");
        call("ship", 0, 0, 4, 3, 2, 62);
        call("ship", 1, 0, 1, 3, 26, 3);
        tells(2, 216, "tonight", 0, 0, 3);
        holds(3, 5, 0);
        sentence(37, "one SHIP lies where where() tells, if her lines PART nowhere");
        woken("c4", "p32:75");
        call("ship", 2, 0, 1, 4, 4, 9999);
        tells(0, 92, "tonight", 0, 0, 3);
        holds(3, 3);
        sentence(37, "CELLS come to a ROW (anew, one for each SHIP that there is): over a longer one");
        woken("c16", "");
        row(5, filled(60, 7));
        call("ship", 0, 0, 1, 1, 0, 1);
        call("ship", 2, 0, 1, 1, 0, 1);
        tells(0, 0, "tonight", 0, 0, 5);
        holds(5, 0, 1);
        sentence(37, "There are always CELLS enough: three SHIPS in three CELLS");
        woken("c3", "");
        for (int s = 0; s < 3; s++) {
            call("ship", s, 15, 1, 1, 0, 1);
        }
        tells(0, 0, "tonight", 0, 0, 0);
        holds(0, 0, 1, 2);
        sentence(37, "three SHIPS in sixteen CELLS");
        woken("c16", "");
        for (int s = 0; s < 3; s++) {
            call("ship", s, 15, 1, 1, 0, 1);
        }
        tells(0, 0, "tonight", 0, 0, 0);
        holds(0, 0, 1, 2);
        sentence(37, "SHIPS stay where they are");
        woken("c5", "p17:69");
        call("ship", 0, 0, 6, 4, 14, 65);
        row(0, 0);
        call("tonight", 0, 0, 0);
        long before = call("digest");
        call("tonight", 0, 0, 0);
        answers(before, "digest");
        call("night", 0, 0);
        call("go", 300);
        call("rides", 0, 2);
        long pull = call("asked");
        due("pull", call("pull", 0, 0, 0), pull);
    }

    private void tonightAlike() {
        sentence(37, "of alike ones the first by CELLS of SHIP 0, then 1: SHIPS that are twins");
        woken("c5", "p17:69");
        call("ship", 0, 0, 6, 4, 14, 65);
        call("ship", 2, 0, 6, 4, 14, 65);
        call("tonight", 0, 0, 0);
        call("at", 0, 0);
        long first = call("asked");
        call("at", 0, 1);
        due("the first one lies behind the second", first < call("asked") ? 1 : 0, 1);
        sentence(37, "of alike ones the first by CELLS of SHIP 0, then 1, then 2: behind a WALL");
        woken("c7 w2 m0:9", "p20:50");
        for (int s = 0; s < 3; s++) {
            call("ship", s, 0, 1, 9, 0, 1);
        }
        tells(0, 0, "tonight", 0, 0, 0);
        holds(0, 3, 4, 5);
    }

    // What a call has woken leaves nothing to the next one.
    private void again() {
        sentence(35, "woken: the same, whatever was woken ahead of it");
        wakeAll();
        tells(1, 32, "tight", 0, 0, 0);
        tells(1, 32, "tight", 0, 0, 0);
        sentence(36, "woken: the same, whatever was woken ahead of it");
        wakeAll();
        long cell = call("where", 0, 0, 0);
        long pull = call("asked");
        anew();
        harbour(0, "c4");
        sea(0, "p9:29");
        call("ship", 0, 3, 1, 6, 2, 76);
        tells(cell, pull, "where", 0, 0, 0);
        tells(cell, pull, "where", 0, 0, 0);
        sentence(34, "woken: the same, whatever was woken ahead of it");
        wakeAll();
        pull = call("pull", 0, 0, 0);
        anew();
        harbour(0, "c4");
        sea(0, "p9:29");
        call("ship", 0, 3, 1, 6, 2, 76);
        answers(pull, "pull", 0, 0, 0);
        answers(pull, "pull", 0, 0, 0);
    }

    private void wakeAll() {
        harbour(0, "c4");
        harbour(1, "c16 m9:9");
        sea(0, "p9:29");
        sea(1, "p20:99");
        for (int s = 0; s < 3; s++) {
            call("ship", s, 3, 1, 6, 2, 76);
        }
        call("tonight", 1, 1, 0);
        call("quiet", 1, 1);
        call("where", 1, 1, 1);
        call("tight", 1, 1, 1);
        call("odds", 1, 1);
        call("ring", 1, 9);
    }

    private void oddsRefused() {
        sentence(38, "BAD: a SHIP that is none");
        setUp();
        bounds("odds", 0, 0, 2, 0, 0);
        sentence(38, "BAD: a HARBOUR that is none");
        setUp();
        bounds("odds", 1, 0, 3, 0, 0);
        sentence(38, "BAD ahead of STATE");
        refused(BAD, "odds", 0, 4);
        refused(BAD, "odds", 3, 0);
        sentence(38, "STATE");
        setUp();
        refused(STATE, "odds", 1, 0);
        sentence(38, "STATE ahead of NOTHING");
        refused(STATE, "odds", 0, 0);
        sentence(38, "NOTHING: the HARBOUR");
        setUp();
        finds(NOTHING, "odds", 0, 1);
        sentence(38, "NOTHING: no SEA");
        harbour(0, "c3");
        call("ship", 0, 0, 1, 1, 0, 1);
        finds(NOTHING, "odds", 0, 0);
        sentence(38, "NOTHING ahead of BEYOND");
        harbour(0, "c3");
        call("ship", 0, 15, 1, 1, 0, 1);
        finds(NOTHING, "odds", 0, 0);
        sentence(38, "BEYOND");
        setUp();
        call("ship", 0, 3, 1, 1, 0, 1);
        finds(BEYOND, "odds", 0, 0);
    }

    private void odds() {
        sentence(38, "in lowest terms (0 by 1): none of one, none of four");
        harbour(0, "c3");
        call("ship", 0, 1, 1, 2, 0, 5);
        sea(3, "");
        tellsFraction(0, 0, 1, "odds", 0, 0);
        sea(0, "");
        sea(1, "");
        sea(2, "p9:0");
        tellsFraction(0, 0, 1, "odds", 0, 0);
        sentence(38, "in lowest terms: all of one, of two, of three, of four");
        harbour(0, "c3 m0:8 r0");
        call("ship", 0, 1, 1, 2, 0, 5);
        for (int k = 0; k < 4; k++) {
            sea(k, "p10:32");
            tellsFraction(k + 1, 1, 1, "odds", 0, 0);
        }
        sentence(38, "in lowest terms: one of three, one of four, two of four, three of four");
        harbour(0, "c3 m0:8 r0");
        call("ship", 0, 1, 1, 2, 0, 5);
        sea(0, "");
        sea(1, "");
        sea(3, "p10:32");
        tellsFraction(1, 1, 3, "odds", 0, 0);
        sea(2, "");
        tellsFraction(1, 1, 4, "odds", 0, 0);
        sea(0, "p10:32");
        tellsFraction(2, 1, 2, "odds", 0, 0);
        sea(1, "p10:32");
        tellsFraction(3, 3, 4, "odds", 0, 0);
        sentence(38, "woken: her lines PART in the last of 300 SECONDS, and are just strong enough");
        woken("c6", "p45:71");
        call("ship", 0, 4, 3, 9, 17, 305);
        tellsFraction(1, 1, 1, "odds", 0, 0);
        call("ship", 0, 4, 3, 9, 17, 306);
        tellsFraction(0, 0, 1, "odds", 0, 0);
        sentence(38, "woken: what comes behind 300 SECONDS does not count");
        woken("c9m5:6", "p60:28");
        call("ship", 0, 8, 4, 1, 10, 12);
        tellsFraction(0, 0, 1, "odds", 0, 0);
        sentence(38, "the others do not matter: at a CELL that it has not");
        harbour(0, "c3 m0:8 r0");
        sea(0, "p10:32");
        call("ship", 0, 1, 1, 2, 0, 5);
        call("ship", 1, 15, 1, 2, 0, 5);
        tellsFraction(1, 1, 1, "odds", 0, 0);
        sentence(38, "odds() tells nothing by asked()");
        harbour(0, "c3 m0:8 r0");
        sea(0, "p10:32");
        call("ship", 0, 1, 1, 2, 0, 5);
        call("about", 0, 0);
        tells(1, 3, "odds", 0, 0);
        sentence(38, "woken: the NIGHT stays as it is");
        nightStays("odds", 0, 0);
    }
}
