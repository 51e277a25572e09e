/** The edges of promises 10 to 16: TEXTS that are read, HARBOURS, SEAS, SHIPS. */
public final class EdgesOfTextsTest extends Sentences {
    public static void main(String[] args) {
        EdgesOfTextsTest t = new EdgesOfTextsTest();
        t.blanks();
        t.cells();
        t.depths();
        t.walls();
        t.mouths();
        t.rubs();
        t.faultsOfItems();
        t.sets();
        t.faultsOfSets();
        t.faultRefused();
        t.harbourCall();
        t.seaCall();
        t.about();
        t.set();
        t.ship();
        t.leave();
        t.end();
    }

    /** The TEXT's FAULT, and what harbour() makes of it: STATE, and nothing has changed. */
    private void faulty(int place, String text) {
        anew();
        write(0, text);
        due("fault of '" + text + "'", call("fault", 0, 0), place);
        refused(STATE, "harbour", 0, 0);
    }

    private void faultySea(int place, String text) {
        anew();
        write(0, text);
        due("fault of '" + text + "' as a SEA", call("fault", 0, 1), place);
        refused(STATE, "sea", 0, 0);
    }

    /** The TEXT has no FAULT, and about() tells of it: CELLS, MOUTH, width, RUB, WALLS, then depths. */
    private void reads(String text, int... facts) {
        anew();
        write(0, text);
        due("fault of '" + text + "'", call("fault", 0, 0), NONE);
        due("harbour of '" + text + "'", call("harbour", 0, 0), facts[0]);
        for (int i = 0; i < facts.length; i++) {
            call("about", 0, i);
            due("about " + i + " of '" + text + "'", call("asked"), facts[i]);
        }
    }

    /** Likewise of a SEA: of each SET its BEAT, what it pushes. */
    private void readsSea(String text, int... facts) {
        anew();
        write(0, text);
        due("fault of '" + text + "' as a SEA", call("fault", 0, 1), NONE);
        due("sea of '" + text + "'", call("sea", 0, 0), facts.length / 2);
        for (int i = 0; i + 1 < facts.length; i += 2) {
            due("BEAT of '" + text + "'", call("set", 0, i / 2), facts[i]);
            due("push of '" + text + "'", call("asked"), facts[i + 1]);
        }
        finds(BEYOND, "set", 0, facts.length / 2);
    }

    private void blanks() {
        sentence(10, "blanks (32) ahead, between, behind as many as wanted");
        reads("c3", 3, 0, 4, 1, 0);
        reads("     c3", 3, 0, 4, 1, 0);
        reads("c3      ", 3, 0, 4, 1, 0);
        reads("  c3   d1:7    w1 r2  ", 3, 0, 4, 2, 2, 4, 7, 4);
        reads("c3d1:7w1r2", 3, 0, 4, 2, 2, 4, 7, 4);
        readsSea("   p7:5    p8:6  ", 7, 5, 8, 6);
        readsSea("p7:5p8:6", 7, 5, 8, 6);
        sentence(10, "as many as wanted: a TEXT of 100 bytes that is full");
        reads(" ".repeat(94) + "c3 r1 ", 3, 0, 4, 1, 0);
        reads("c16" + " ".repeat(92) + "d15:9", 16, 0, 4, 1, 0, 4, 4, 4, 4, 4, 4, 4, 4, 4, 4, 4, 4, 4, 4, 4, 9);
        reads("c3" + "r1".repeat(48) + "r7", 3, 0, 4, 7, 0);
        readsSea(" ".repeat(94) + "p60:99", 60, 99);
        sentence(10, "none within items");
        faulty(1, "c 5");
        faulty(2, "c1 6");
        faulty(3, "c5d 1:2");
        faulty(4, "c5d1 :2");
        faulty(5, "c5d1: 2");
        faulty(3, "c5w 1");
        faulty(3, "c5m 1:2");
        faulty(4, "c5m1 :2");
        faulty(5, "c5m1: 2");
        faulty(3, "c5r 1");
        faultySea(1, "p 5:1");
        faultySea(2, "p5 :1");
        faultySea(3, "p5: 1");
        sentence(10, "blanks are 32 alone");
        faulty(2, "c3\t");
        faulty(0, "\nc3");
        faultySea(4, "p5:1\t");
        anew();
        write(0, "c3 ");
        call("put", 0, 2, 0);
        answers(2, "fault", 0, 0);
        call("put", 0, 2, 160);
        answers(2, "fault", 0, 0);
        call("put", 0, 2, 32 + 256);
        answers(NONE, "fault", 0, 0);
    }

    private void cells() {
        sentence(10, "CELLS (3 .. 16): the fewest");
        reads("c3", 3, 0, 4, 1, 0, 4, 4, 4);
        faulty(2, "c2");
        faulty(2, "c0");
        faulty(2, "c2 ");
        sentence(10, "CELLS (3 .. 16): the most");
        reads("c16", 16, 0, 4, 1, 0, 4, 4, 4, 4, 4, 4, 4, 4, 4, 4, 4, 4, 4, 4, 4, 4);
        faulty(3, "c17");
        faulty(3, "c99");
        sentence(10, "n one or two figures");
        reads("c9", 9);
        reads("c10", 10);
        reads("c03", 3);
        faulty(3, "c02");
        faulty(3, "c00");
        faulty(3, "c160");
        faulty(3, "c003");
        sentence(10, "n out of these: the place behind, whatever comes there");
        faulty(2, "c2x");
        faulty(3, "c17w99");
        sentence(10, "the first item");
        faulty(0, "d1:2");
        faulty(0, "r1c5");
        faulty(1, " w1 c5");
        sentence(10, "just once");
        faulty(2, "c5c5");
        faulty(4, "c5  c5");
        faulty(7, "c5 r1  c5");
        sentence(10, "the TEXT's size, if there is no c");
        faulty(0, "");
        faulty(4, "    ");
        faulty(100, " ".repeat(100));
        sentence(10, "the TEXT's size, if its end comes too early: behind c");
        faulty(1, "c");
        faulty(3, "  c");
        faulty(100, " ".repeat(99) + "c");
        sentence(10, "a figure that is none such: its place, behind c");
        faulty(1, "cx");
        faulty(1, "c/");
        faulty(1, "c:");
        faulty(1, "c-3");
    }

    private void depths() {
        sentence(10, "the depth of CELL k is v (1 .. 9): the least, the greatest one");
        reads("c3 d0:1 d2:9", 3, 0, 4, 1, 0, 1, 4, 9);
        faulty(5, "c3d0:0");
        sentence(10, "v one figure");
        faulty(6, "c3d0:10");
        faulty(6, "c3d0:99");
        faulty(5, "c3d0:09");
        sentence(10, "4, if not told");
        reads("c4 d1:9", 4, 0, 4, 1, 0, 4, 9, 4, 4);
        sentence(10, "the last told counts: a depth");
        reads("c3 d1:9 d1:2 d1:7", 3, 0, 4, 1, 0, 4, 7, 4);
        sentence(10, "a CELL that there is not: the place behind, of a depth");
        reads("c3d2:5", 3, 0, 4, 1, 0, 4, 4, 5);
        faulty(4, "c3d3:5");
        faulty(5, "c3d16:5");
        faulty(6, "c16d16:5");
        faulty(6, "c16d99:5");
        sentence(10, "k one or two figures, of a depth");
        reads("c3d02:5", 3, 0, 4, 1, 0, 4, 4, 5);
        reads("c16d15:5", 16, 0, 4, 1, 0, 4, 4, 4, 4, 4, 4, 4, 4, 4, 4, 4, 4, 4, 4, 4, 5);
        faulty(5, "c3d002:5");
        sentence(10, "the TEXT's size, if its end comes too early: within a depth");
        faulty(3, "c3d");
        faulty(4, "c3d1");
        faulty(5, "c3d1:");
        sentence(10, "a figure that is none such: its place, of a depth");
        faulty(3, "c3dx");
        faulty(4, "c3d1x");
        faulty(5, "c3d1:x");
        sentence(10, "a FAULT leaves the HARBOUR that was there");
        harbour(0, "c3 d1:7");
        write(0, "c3 d1:8 d1:0");
        refused(STATE, "harbour", 0, 0);
        tells(1, 7, "about", 0, 6);
    }

    private void walls() {
        sentence(10, "a WALL between CELL k and the next one: the first, the last one");
        reads("c3w0", 3, 0, 4, 1, 1);
        reads("c3w1", 3, 0, 4, 1, 2);
        reads("c16w14", 16, 0, 4, 1, 1 << 14);
        sentence(10, "a WALL behind the last one: the place behind");
        faulty(4, "c3w2");
        faulty(6, "c16w15");
        sentence(10, "a CELL that there is not: the place behind, of a WALL");
        faulty(4, "c3w3");
        faulty(5, "c3w99");
        sentence(10, "a WALL told twice is one");
        reads("c3w0w0", 3, 0, 4, 1, 1);
        sentence(10, "every WALL");
        reads("c16w0w1w2w3w4w5w6w7w8w9w10w11w12w13w14", 16, 0, 4, 1, (1 << 15) - 1);
        sentence(10, "the TEXT's size, if its end comes too early: within a WALL");
        faulty(3, "c3w");
        sentence(10, "a figure that is none such: its place, of a WALL");
        faulty(3, "c3wx");
        faulty(4, "c3w1:");
    }

    private void mouths() {
        sentence(10, "the MOUTH is at CELL k: the first, the last one");
        reads("c3m0:5", 3, 0, 5, 1, 0);
        reads("c3m2:5", 3, 2, 5, 1, 0);
        reads("c16m15:5", 16, 15, 5, 1, 0);
        sentence(10, "g wide (0 .. 9, one figure)");
        reads("c3m1:0", 3, 1, 0, 1, 0);
        reads("c3m1:9", 3, 1, 9, 1, 0);
        faulty(6, "c3m1:10");
        sentence(10, "CELL 0 and 4, if not told");
        reads("c3", 3, 0, 4, 1, 0);
        sentence(10, "the last told counts: a MOUTH");
        reads("c3m2:9m1:3", 3, 1, 3, 1, 0);
        sentence(10, "a CELL that there is not: the place behind, of a MOUTH");
        faulty(4, "c3m3:5");
        faulty(6, "c16m16:5");
        sentence(10, "the TEXT's size, if its end comes too early: within a MOUTH");
        faulty(3, "c3m");
        faulty(4, "c3m1");
        faulty(5, "c3m1:");
        sentence(10, "a figure that is none such: its place, of a MOUTH");
        faulty(3, "c3mx");
        faulty(4, "c3m1;1");
        faulty(5, "c3m1:x");
    }

    private void rubs() {
        sentence(10, "RUB (0 .. 9, one figure)");
        reads("c3r0", 3, 0, 4, 0, 0);
        reads("c3r9", 3, 0, 4, 9, 0);
        faulty(4, "c3r10");
        sentence(10, "1, if not told");
        reads("c3", 3, 0, 4, 1, 0);
        sentence(10, "the last told counts: likewise RUB");
        reads("c3r9r0r5", 3, 0, 4, 5, 0);
        sentence(10, "the TEXT's size, if its end comes too early: within RUB");
        faulty(3, "c3r");
        sentence(10, "a figure that is none such: its place, of RUB");
        faulty(3, "c3rx");
        faulty(3, "c3r-1");
    }

    private void faultsOfItems() {
        sentence(10, "the first place at which it can't go on so: a letter of no item");
        faulty(2, "c3x");
        faulty(4, "c3  p5:5");
        faulty(0, "C3");
        faulty(2, "c3D1:2");
        faulty(2, "c3:");
        faulty(6, "c3w1r17");
        sentence(10, "the first place: of several FAULTS the first");
        faulty(4, "c3w2 d9:0 x");
        sentence(10, "a TEXT of a HARBOUR is none of a SEA");
        write(0, "c5");
        answers(NONE, "fault", 0, 0);
        answers(0, "fault", 0, 1);
        refused(STATE, "sea", 0, 0);
        sentence(10, "a TEXT of a SEA is none of a HARBOUR");
        write(0, "p5:5");
        answers(NONE, "fault", 0, 1);
        answers(0, "fault", 0, 0);
        refused(STATE, "harbour", 0, 0);
    }

    private void sets() {
        sentence(10, "SETS (none, or 4 at most): none");
        readsSea("");
        readsSea("     ");
        sentence(10, "SETS (none, or 4 at most): four");
        readsSea("p2:1p3:2p4:3 p5:4", 2, 1, 3, 2, 4, 3, 5, 4);
        sentence(10, "BEAT t seconds (2 .. 60, one or two figures)");
        readsSea("p2:1p60:1p02:1p9:1", 2, 1, 60, 1, 2, 1, 9, 1);
        faultySea(2, "p1:5");
        faultySea(2, "p0:5");
        faultySea(3, "p01:5");
        faultySea(3, "p61:5");
        faultySea(3, "p99:5");
        faultySea(3, "p060:5");
        sentence(10, "pushes a (0 .. 99, one or two figures)");
        readsSea("p5:0p5:99p5:00p5:9", 5, 0, 5, 99, 5, 0, 5, 9);
        faultySea(5, "p5:100");
        faultySea(5, "p5:000");
    }

    private void faultsOfSets() {
        sentence(10, "a fifth SET: its letter");
        faultySea(16, "p5:1p5:1p5:1p5:1p5:1");
        faultySea(19, "p5:1p5:1p5:1p5:1   p5:1");
        faultySea(16, "p5:1p5:1p5:1p5:1p");
        sentence(10, "the TEXT's size, if its end comes too early: within a SET");
        faultySea(1, "p");
        faultySea(2, "p5");
        faultySea(3, "p60");
        faultySea(3, "p5:");
        faultySea(100, " ".repeat(97) + "p5:");
        sentence(10, "a figure that is none such: its place, of a SET");
        faultySea(1, "px");
        faultySea(2, "p5x");
        faultySea(3, "p5:x");
        faultySea(4, "p5:1x");
        faultySea(3, "p5:-1");
        sentence(10, "the first place at which it can't go on so: a letter of no SET");
        faultySea(0, "x");
        faultySea(2, "  P5:5");
        faultySea(0, "5:5");
        faultySea(5, "p5:5 c3");
    }

    private void faultRefused() {
        sentence(10, "BAD");
        call("text", 0, 0);
        call("text", 3, 0);
        bounds("fault", 0, 0, 3, 0, 0);
        bounds("fault", 0, 0, 3, 0, 1);
        sentence(10, "NOTHING");
        finds(NOTHING, "fault", 0, 0);
        finds(NOTHING, "fault", 3, 1);
        sentence(10, "NONE: there is none; it is no FINDING, and changes nothing");
        write(0, "c3");
        refused(NONE, "fault", 0, 0);
        refused(0, "fault", 0, 1);
    }

    private void harbourCall() {
        sentence(0, "A HARBOUR (0 .. 3)");
        write(0, "c3");
        for (int k = 0; k < 4; k++) {
            answers(3, "harbour", k, 0);
            answers(k + 1, "count", 0);
        }
        sentence(11, "BAD: a HARBOUR that is none");
        write(0, "c3");
        bounds("harbour", 0, 0, 3, 0, 0);
        sentence(11, "BAD: a TEXT that is none");
        write(0, "c3");
        write(3, "c3");
        bounds("harbour", 1, 0, 3, 0, 0);
        sentence(11, "BAD ahead of NOTHING");
        refused(BAD, "harbour", 4, 0);
        refused(BAD, "harbour", -1, 0);
        sentence(11, "BAD ahead of STATE");
        write(0, "x");
        refused(BAD, "harbour", 4, 0);
        sentence(11, "NOTHING");
        harbour(0, "c3");
        finds(NOTHING, "harbour", 0, 0);
        tells(1, 3, "about", 0, 0);
        sentence(11, "STATE: a FAULT; no FINDING is told");
        write(0, "c3x");
        refused(STATE, "harbour", 0, 0);
        answers(0, "count", 0);
        sentence(11, "(anew): nothing stays of what it was");
        harbour(1, "c5 d2:9 w1 m2:7 r6");
        harbour(1, "c4");
        tells(1, 4, "about", 1, 0);
        tells(1, 0, "about", 1, 1);
        tells(1, 4, "about", 1, 2);
        tells(1, 1, "about", 1, 3);
        tells(1, 0, "about", 1, 4);
        tells(1, 4, "about", 1, 7);
        finds(BEYOND, "about", 1, 9);
        sentence(11, "by a TEXT: what becomes of that later changes nothing");
        write(0, "c5");
        answers(5, "harbour", 0, 0);
        call("put", 0, 1, '6');
        tells(1, 5, "about", 0, 0);
        call("text", 0, 0);
        tells(1, 5, "about", 0, 0);
    }

    private void seaCall() {
        sentence(0, "A SEA (0 .. 3)");
        write(0, "p5:5");
        for (int k = 0; k < 4; k++) {
            answers(1, "sea", k, 0);
            answers(k + 1, "count", 1);
        }
        sentence(12, "BAD: a SEA that is none");
        write(0, "p5:5");
        bounds("sea", 0, 0, 3, 0, 0);
        sentence(12, "BAD: a TEXT that is none");
        write(0, "p5:5");
        write(3, "p5:5");
        bounds("sea", 1, 0, 3, 0, 0);
        sentence(12, "BAD ahead of NOTHING");
        refused(BAD, "sea", 4, 0);
        refused(BAD, "sea", -1, 0);
        sentence(12, "BAD ahead of STATE");
        write(0, "x");
        refused(BAD, "sea", -1, 0);
        sentence(12, "NOTHING");
        sea(0, "p5:5");
        finds(NOTHING, "sea", 0, 0);
        tells(5, 5, "set", 0, 0);
        sentence(12, "STATE: a FAULT; no FINDING is told");
        sea(0, "p5:5");
        write(0, "p6:6p7");
        refused(STATE, "sea", 0, 0);
        tells(5, 5, "set", 0, 0);
        sentence(12, "how many SETS: none, four");
        write(0, "");
        answers(0, "sea", 0, 0);
        write(0, "p5:5p5:5p5:5p5:5");
        answers(4, "sea", 1, 0);
        sentence(12, "(anew): nothing stays of what it was");
        sea(1, "p5:5p6:6");
        sea(1, "p7:7");
        tells(7, 7, "set", 1, 0);
        finds(BEYOND, "set", 1, 1);
        sentence(12, "A SEA without SETS is there");
        write(0, "");
        answers(0, "sea", 2, 0);
        answers(1, "count", 1);
        finds(BEYOND, "set", 2, 0);
    }

    private void about() {
        sentence(13, "BAD: a HARBOUR that is none");
        harbour(0, "c3");
        harbour(3, "c3");
        bounds("about", 0, 0, 3, 0, 0);
        sentence(13, "BAD: what not 0 .. 20");
        harbour(0, "c16");
        bounds("about", 1, 0, 20, 0, 0);
        sentence(13, "BAD ahead of NOTHING");
        refused(BAD, "about", 0, 21);
        refused(BAD, "about", 0, -1);
        sentence(13, "NOTHING");
        finds(NOTHING, "about", 0, 0);
        sentence(13, "NOTHING ahead of BEYOND");
        finds(NOTHING, "about", 3, 20);
        sentence(13, "BEYOND: no such CELL, of three");
        harbour(0, "c3 d2:7");
        tells(1, 7, "about", 0, 7);
        finds(BEYOND, "about", 0, 8);
        finds(BEYOND, "about", 0, 20);
        sentence(13, "the depth of CELL what less 5: the first, the last of sixteen");
        harbour(0, "c16 d0:2 d15:3");
        tells(1, 2, "about", 0, 5);
        tells(1, 3, "about", 0, 20);
        sentence(13, "WALLS (bits by the CELL ahead): none, the first, the last, all");
        harbour(0, "c16");
        tells(1, 0, "about", 0, 4);
        harbour(0, "c16 w0");
        tells(1, 1, "about", 0, 4);
        harbour(0, "c16 w14");
        tells(1, 16384, "about", 0, 4);
        harbour(0, "c3 w0 w1");
        tells(1, 3, "about", 0, 4);
    }

    private void set() {
        sentence(14, "BAD");
        sea(0, "p5:5");
        sea(3, "p5:5");
        bounds("set", 0, 0, 3, 0, 0);
        sentence(14, "BAD ahead of NOTHING, BEYOND");
        refused(BAD, "set", 4, -1);
        sentence(14, "NOTHING");
        finds(NOTHING, "set", 0, 0);
        sentence(14, "NOTHING ahead of BEYOND");
        finds(NOTHING, "set", 0, -1);
        finds(NOTHING, "set", 0, 4);
        sentence(14, "BEYOND: any i that is none");
        sea(0, "p5:5");
        finds(BEYOND, "set", 0, 1);
        finds(BEYOND, "set", 0, 4);
        finds(BEYOND, "set", 0, -1);
        finds(BEYOND, "set", 0, LOW);
        finds(BEYOND, "set", 0, HIGH);
        sentence(14, "SET i: the first, the last of four");
        sea(0, "p2:0p3:1p4:2p60:99");
        tells(2, 0, "set", 0, 0);
        tells(60, 99, "set", 0, 3);
        finds(BEYOND, "set", 0, 4);
    }

    private void ship() {
        sentence(0, "SHIPS 0, 1, 2");
        for (int s = 0; s < 3; s++) {
            answers(1, "ship", s, 0, 1, 1, 0, 1);
            answers(s + 1, "count", 2);
        }
        sentence(15, "BAD: a SHIP that is none");
        bounds("ship", 0, 0, 2, 0, 3, 2, 2, 2, 2);
        sentence(15, "BAD (a CELL 0 .. 15)");
        bounds("ship", 1, 0, 15, 0, 3, 2, 2, 2, 2);
        sentence(15, "BAD: a WEIGHT 1 .. 9");
        bounds("ship", 2, 1, 9, 0, 3, 2, 2, 2, 2);
        sentence(15, "BAD: TIGHTNESS 1 .. 9");
        bounds("ship", 3, 1, 9, 0, 3, 2, 2, 2, 2);
        sentence(15, "BAD: SLACK 0 .. 30");
        bounds("ship", 4, 0, 30, 0, 3, 2, 2, 2, 2);
        sentence(15, "BAD: STRENGTH 1 .. 9999");
        bounds("ship", 5, 1, 9999, 0, 3, 2, 2, 2, 2);
        sentence(15, "BAD leaves the SHIP that was there");
        answers(1, "ship", 0, 3, 2, 2, 2, 2);
        refused(BAD, "ship", 0, 16, 9, 9, 9, 9);
        sentence(15, "a CELL 0 .. 15: also one that no HARBOUR has");
        harbour(0, "c3");
        answers(1, "ship", 0, 15, 1, 1, 0, 1);
        sentence(15, "(anew): she is another one, and no SHIP more");
        answers(1, "ship", 1, 3, 1, 1, 0, 1);
        long first = call("digest");
        answers(1, "ship", 1, 15, 9, 9, 30, 9999);
        answers(1, "count", 2);
        due("the digest is another one", call("digest") == first ? 1 : 0, 0);
        answers(1, "ship", 1, 3, 1, 1, 0, 1);
        answers(first, "digest");
    }

    private void leave() {
        sentence(16, "A SHIP is missing: the first, the last one, and no other");
        for (int s = 0; s < 3; s++) {
            call("ship", s, 0, 1, 1, 0, 1);
        }
        answers(1, "leave", 0);
        answers(1, "leave", 2);
        answers(1, "count", 2);
        refused(STATE, "roll", 0);
        refused(STATE, "roll", 2);
        due("roll(1) is refused", call("roll", 1) < 0 ? 1 : 0, 0);
        sentence(16, "BAD");
        bounds("leave", 0, 0, 2, 0);
        sentence(16, "STATE: she is missing already, from the first");
        refused(STATE, "leave", 0);
        refused(STATE, "leave", 2);
        sentence(16, "STATE: she is missing already, as she has left");
        call("ship", 1, 0, 1, 1, 0, 1);
        answers(1, "leave", 1);
        refused(STATE, "leave", 1);
        sentence(16, "she may come again");
        call("ship", 1, 0, 1, 1, 0, 1);
        call("leave", 1);
        answers(1, "ship", 1, 0, 1, 1, 0, 1);
        answers(1, "leave", 1);
    }
}
