/**
 * The edges of promises 17 to 24, NIGHTS, and of the SECONDS that they go by (part 2 ahead of the promises). The
 * numbers were worked out by hand.
 */
public final class EdgesOfNightsTest extends Sentences {
    public static void main(String[] args) {
        EdgesOfNightsTest t = new EdgesOfNightsTest();
        t.flows();
        t.rub();
        t.pushes();
        t.mouths();
        t.shipsAtCells();
        t.shipsOnLines();
        t.mirrored();
        t.ranges();
        t.nightRefused();
        t.nightBegun();
        t.asItWasBegun();
        t.go();
        t.cell();
        t.rides();
        t.gaugeRefused();
        t.gauge();
        t.keep();
        t.on();
        t.water();
        t.end();
    }

    private void begun(String harbour, String sea) {
        harbour(0, harbour);
        sea(0, sea);
        call("night", 0, 0);
    }

    private void flowIs(int cell, int flow) {
        tells(1, flow, "cell", cell, 1);
    }

    private void heights(int... all) {
        for (int k = 0; k < all.length; k++) {
            tells(1, all[k], "cell", k, 0);
        }
    }

    private void rideIs(int s, int place, int speed, int pull, int parted) {
        tells(1, place, "rides", s, 0);
        tells(1, speed, "rides", s, 1);
        tells(1, pull, "rides", s, 2);
        tells(1, parted, "rides", s, 3);
    }

    // ---- part 2: a SECOND

    private void flows() {
        sentence(0, "HEIGHTS, FLOWS: all 0 at first");
        begun("c3 m0:8 r0", "p10:32");
        heights(0, 0, 0);
        flowIs(0, 0);
        flowIs(1, 0);
        flowIs(2, 0);
        sentence(0, "all divisions cut toward 0: a FLOW above 0");
        begun("c3 d0:1d1:1d2:1 m0:8 r0", "p60:30");
        call("go", 2);
        heights(22, 0, 0);
        flowIs(0, 0);
        call("go", 1);
        heights(25, 1, 0);
        flowIs(0, 1);
        sentence(0, "all divisions cut toward 0: a FLOW below 0");
        begun("c3 d0:1d1:1d2:1 m2:8 r0", "p60:30");
        call("go", 2);
        heights(0, 0, 22);
        flowIs(1, 0);
        call("go", 1);
        heights(0, 1, 25);
        flowIs(1, -1);
        sentence(0, "all divisions cut toward 0: a PUSH below the HEIGHT");
        begun("c3 d0:1d1:1d2:1 m0:8 r0", "p2:30");
        call("go", 2);
        heights(-7, 0, 0);
        call("go", 1);
        heights(11, 0, 0);
        flowIs(0, 0);
        sentence(0, "with a WALL it is 0");
        begun("c3 w0 m0:8 r0", "p10:32");
        call("go", 5);
        flowIs(0, 0);
        tells(1, 0, "cell", 1, 0);
        tells(1, 0, "cell", 2, 0);
        sentence(0, "times the lesser of both depths: the CELL's");
        begun("c3 d0:2d1:9 m0:8 r0", "p60:32");
        call("go", 2);
        flowIs(0, 2);
        sentence(0, "times the lesser of both depths: the next one's");
        begun("c3 d0:9d1:2 m0:8 r0", "p60:32");
        call("go", 2);
        flowIs(0, 2);
        sentence(0, "times the lesser of both depths: the greatest");
        begun("c3 d0:9d1:9 m0:8 r0", "p60:32");
        call("go", 2);
        flowIs(0, 9);
        sentence(0, "by HEIGHTS as they were");
        begun("c3 m0:8 r0", "p10:32");
        call("go", 3);
        heights(23, 11, 1);
        flowIs(0, 8);
        flowIs(1, 1);
    }

    // The first FLOW, 8 at a push of 32 and 7 at one of 28, behind two SECONDS.
    private void rubbed(int rub, int push, int flow) {
        anew();
        begun("c3 d0:8d1:8 m0:8 r" + rub, "p60:" + push);
        call("go", 2);
        flowIs(0, flow);
        anew();
        begun("c3 d1:8d2:8 m2:8 r" + rub, "p60:" + push);
        call("go", 2);
        flowIs(1, -flow);
    }

    private void rub() {
        sentence(0, "then less by itself times RUB by 64: RUB 0");
        rubbed(0, 32, 8);
        sentence(0, "then less by itself times RUB by 64: cut toward 0, just less than 1");
        rubbed(7, 32, 8);
        rubbed(9, 28, 7);
        sentence(0, "then less by itself times RUB by 64: just 1");
        rubbed(8, 32, 7);
        sentence(0, "then less by itself times RUB by 64: RUB 9");
        rubbed(9, 32, 7);
    }

    // The MOUTH's CELL alone between WALLS: it is more by (PUSH - HEIGHT) * 9 / 16 each SECOND.
    private void alone(String sea) {
        anew();
        begun("c3 w0w1 m0:9 r0", sea);
    }

    private void pushes() {
        sentence(0, "below half of that (cut): the least BEAT, 2");
        alone("p2:16");
        rises(0, 9, -5, 6, -6);
        sentence(0, "below half of that (cut): an odd BEAT, 3");
        alone("p3:16");
        rises(0, 9, -5, -11, 4);
        sentence(0, "below half of that (cut): the greatest BEAT, 60, and around it");
        alone("p60:16");
        rises(0, 9, 12, 14, 15);
        call("go", 25);
        rises(0, 15, -2, -9);
        call("go", 26);
        rises(0, -15, -15, 2);
        answers(61, "go", 0);
        sentence(0, "below half of that (cut): BEAT 59, and around it");
        alone("p59:16");
        call("go", 28);
        rises(0, 15, -2);
        call("go", 28);
        rises(0, -15, 2);
        answers(60, "go", 0);
        sentence(0, "the sum over SETS");
        alone("p2:16p3:16");
        rises(0, 18, -10, -5, -3, -2, -18);
        sentence(0, "the sum over SETS: four of the greatest");
        alone("p2:99p2:99p2:99p2:99");
        rises(0, 222, -125);
        sentence(0, "the sum over SETS: none");
        alone("");
        rises(0, 0, 0, 0);
        sentence(0, "the sum over SETS: one that pushes 0");
        alone("p5:0");
        rises(0, 0, 0, 0, 0);
    }

    private void mouths() {
        sentence(0, "times g by 16: g 0, no PUSH comes in");
        begun("c3 m1:0 r0", "p2:99");
        call("go", 50);
        heights(0, 0, 0);
        sentence(0, "times g by 16: g 9");
        begun("c3 m1:9 r0", "p2:99");
        call("go", 1);
        heights(0, 55, 0);
        sentence(0, "the MOUTH's CELL then is more: in the middle, behind both FLOWS");
        begun("c3 m1:8 r0", "p60:32");
        call("go", 1);
        heights(0, 16, 0);
        call("go", 1);
        heights(4, 20, 4);
        flowIs(0, -4);
        flowIs(1, 4);
        sentence(0, "the MOUTH's CELL: the last of sixteen");
        begun("c16 m15:8 r0", "p60:32");
        call("go", 2);
        tells(1, 4, "cell", 14, 0);
        tells(1, 22, "cell", 15, 0);
        flowIs(14, -4);
        flowIs(15, 0);
    }

    // FLOWS of c3 m0:8 r0 under p10:32 in SECONDS 0 to 4: 0 0; 4 0; 8 1; 11 3; 11 6.
    private void shipsAtCells() {
        sentence(0, "both FLOWS of her CELL; one at an end");
        for (int s = 0; s < 3; s++) {
            call("ship", s, s, 1, 1, 30, 9999);
        }
        begun("c3 m0:8 r0", "p10:32");
        call("go", 5);
        rideIs(0, 16, 7, 0, NONE);
        rideIs(1, 20, 10, 0, NONE);
        rideIs(2, 1, 1, 0, NONE);
        sentence(0, "both FLOWS of her CELL: below 0");
        for (int s = 0; s < 3; s++) {
            call("ship", s, s, 1, 1, 30, 9999);
        }
        begun("c3 m2:8 r0", "p10:32");
        call("go", 5);
        rideIs(0, -1, -1, 0, NONE);
        rideIs(1, -20, -10, 0, NONE);
        rideIs(2, -16, -7, 0, NONE);
        sentence(0, "all by 4 times WEIGHT: 1 and 9");
        call("ship", 0, 1, 1, 1, 30, 9999);
        call("ship", 1, 1, 9, 1, 30, 9999);
        begun("c3 m0:9 r0 d0:9d1:9", "p60:99");
        call("go", 2);
        rideIs(0, 7, 7, 0, NONE);
        rideIs(1, 0, 0, 0, NONE);
        call("go", 1);
        // (50 + 7) / 36
        rideIs(1, 1, 1, 0, NONE);
        sentence(0, "then less by itself by 16");
        call("ship", 0, 0, 1, 1, 30, 9999);
        call("ship", 1, 1, 1, 1, 30, 9999);
        begun("c3 m0:9 r0 d0:9d1:9", "p60:99");
        call("go", 3);
        rideIs(0, 25, 18, 0, NONE);
        rideIs(1, 27, 20, 0, NONE);
        sentence(0, "then less by itself by 16: below 0");
        call("ship", 0, 2, 1, 1, 30, 9999);
        call("ship", 1, 1, 1, 1, 30, 9999);
        begun("c3 m2:9 r0 d1:9d2:9", "p60:99");
        call("go", 3);
        rideIs(0, -25, -18, 0, NONE);
        rideIs(1, -27, -20, 0, NONE);
        sentence(0, "Each SHIP that is there: the last one alone");
        call("ship", 2, 1, 1, 1, 30, 9999);
        begun("c3 m0:8 r0", "p10:32");
        call("go", 5);
        rideIs(2, 20, 10, 0, NONE);
        refused(STATE, "rides", 0, 0);
        refused(STATE, "rides", 1, 0);
        sentence(0, "Each SHIP: several at one CELL do not mind one another");
        call("ship", 0, 1, 1, 1, 30, 9999);
        call("ship", 2, 1, 1, 1, 30, 9999);
        begun("c3 m0:8 r0", "p10:32");
        call("go", 5);
        rideIs(0, 20, 10, 0, NONE);
        rideIs(2, 20, 10, 0, NONE);
    }

    private void shipsOnLines() {
        sentence(0, "Place, speed are 0 at first");
        call("ship", 0, 1, 1, 2, 0, 1);
        begun("c3 m0:8 r0", "p10:32");
        rideIs(0, 0, 0, 0, NONE);
        sentence(0, "STRAIN: what her place is farther than SLACK from 0 (0 within): just at SLACK");
        call("ship", 0, 1, 1, 2, 1, 9999);
        begun("c3 m0:8 r0", "p10:32");
        call("go", 2);
        rideIs(0, 1, 1, 0, NONE);
        call("go", 1);
        rideIs(0, 4, 3, 6, NONE);
        sentence(0, "STRAIN: one farther than SLACK");
        call("ship", 0, 1, 1, 2, 0, 9999);
        begun("c3 m0:8 r0", "p10:32");
        call("go", 2);
        rideIs(0, 1, 1, 2, NONE);
        call("go", 1);
        rideIs(0, 3, 2, 6, NONE);
        sentence(0, "STRAIN: farther below 0; more by it, if below");
        call("ship", 0, 1, 1, 2, 0, 9999);
        begun("c3 m2:8 r0", "p10:32");
        call("go", 2);
        rideIs(0, -1, -1, 2, NONE);
        call("go", 1);
        rideIs(0, -3, -2, 6, NONE);
        sentence(0, "STRAIN is TIGHTNESS times: the greatest one");
        call("ship", 0, 1, 1, 9, 0, 9999);
        begun("c3 m0:8 r0", "p10:32");
        call("go", 2);
        rideIs(0, 1, 1, 9, NONE);
        // (8 + 1 - 9) / 4
        call("go", 1);
        rideIs(0, 2, 1, 18, NONE);
        sentence(20, "her lines PART: STRAIN is above STRENGTH");
        call("ship", 0, 1, 1, 2, 0, 5);
        begun("c3 m0:8 r0", "p10:32");
        call("go", 2);
        rideIs(0, 1, 1, 2, NONE);
        call("go", 1);
        rideIs(0, 3, 2, 6, 2);
        sentence(20, "her lines PART: not when STRAIN is as great as STRENGTH");
        call("ship", 0, 1, 1, 2, 0, 6);
        begun("c3 m0:8 r0", "p10:32");
        call("go", 3);
        rideIs(0, 3, 2, 6, NONE);
        sentence(20, "her lines PART: STRENGTH 1, just above");
        call("ship", 0, 1, 1, 2, 0, 1);
        call("ship", 1, 1, 1, 1, 0, 1);
        begun("c3 m0:8 r0", "p10:32");
        call("go", 2);
        rideIs(0, 1, 1, 2, 1);
        rideIs(1, 1, 1, 1, NONE);
        sentence(20, "in the first SECOND behind which STRAIN is above STRENGTH; she goes on so");
        call("ship", 0, 1, 1, 2, 0, 5);
        call("ship", 1, 1, 1, 2, 0, 9999);
        begun("c3 m0:8 r0", "p10:32");
        call("go", 200);
        tells(1, 2, "rides", 0, 3);
        tells(1, NONE, "rides", 1, 3);
        for (int what = 0; what < 3; what++) {
            call("rides", 1, what);
            tells(1, call("asked"), "rides", 0, what);
        }
        sentence(20, "PULL is the greatest STRAIN, not the latest");
        call("ship", 0, 1, 1, 2, 0, 9999);
        begun("c3 m0:8 r0", "p10:32");
        long most = 0;
        for (int i = 0; i < 60; i++) {
            call("go", 1);
            call("rides", 0, 0);
            most = Math.max(most, 2 * Math.abs(call("asked")));
        }
        call("rides", 0, 0);
        due("her place is as far as ever", 2 * Math.abs(call("asked")) == most ? 1 : 0, 0);
        tells(1, most, "rides", 0, 2);
    }

    // A harbour the other way round: cut toward 0, all is alike but for the signs of FLOWS, places and speeds.
    private void mirrored() {
        sentence(0, "all divisions cut toward 0: the same the other way round");
        String[] there = {"c7 d1:9 d3:2 d4:7 w5 m0:7 r3", "c5 d0:9 d1:8 d4:1 m3:9 r9", "c16 d2:5 d9:1 m4:3 r1"};
        String[] back = {"c7 d5:9 d3:2 d2:7 w0 m6:7 r3", "c5 d4:9 d3:8 d0:1 m1:9 r9", "c16 d13:5 d6:1 m11:3 r1"};
        int[] cells = {7, 5, 16};
        for (int i = 0; i < there.length; i++) {
            long[] one = gone(there[i], cells[i], false);
            long[] other = gone(back[i], cells[i], true);
            for (int j = 0; j < one.length; j++) {
                due(there[i] + " at " + j, other[j], one[j]);
            }
        }
    }

    private long[] gone(String harbour, int cells, boolean round) {
        anew();
        for (int s = 0; s < 3; s++) {
            call("ship", s, round ? cells - 1 - 2 * s : 2 * s, 1 + 2 * s, 9 - 3 * s, 2 * s, 40);
        }
        begun(harbour, "p13:99p7:50");
        call("go", 297);
        long[] seen = new long[3 * cells + 12];
        for (int k = 0; k < cells; k++) {
            int at = round ? cells - 1 - k : k;
            seen[k] = told("cell", at, 0);
            seen[cells + k] = told("cell", at, 2);
            int flow = round ? cells - 2 - k : k;
            seen[2 * cells + k] = k == cells - 1 ? told("cell", cells - 1, 1) : (round ? -1 : 1) * told("cell", flow, 1);
        }
        for (int s = 0; s < 3; s++) {
            for (int what = 0; what < 4; what++) {
                seen[3 * cells + 4 * s + what] = (round && what < 2 ? -1 : 1) * told("rides", s, what);
            }
        }
        return seen;
    }

    private long told(String name, int... a) {
        call(name, a);
        return call("asked");
    }

    private void ranges() {
        sentence(0, "RANGE: the beginning does not count");
        begun("c3 m0:8 r0", "p4:32");
        call("go", 1);
        tells(1, 0, "cell", 0, 2);
        tells(1, 0, "cell", 1, 2);
        sentence(0, "RANGE: its greatest HEIGHT less its least one, behind SECONDS");
        begun("c3 m0:8 r0", "p4:32");
        call("go", 2);
        tells(1, 6, "cell", 0, 2);
        tells(1, 4, "cell", 1, 2);
        call("go", 1);
        tells(1, -9, "cell", 0, 0);
        tells(1, 31, "cell", 0, 2);
        sentence(0, "RANGE: all HEIGHTS below 0 behind the first SECONDS");
        begun("c3 w0w1 m0:9 r0", "p2:16");
        rises(0, 9, -5, 6, -6);
        tells(1, 15, "cell", 0, 2);
        sentence(0, "RANGE is that of all SECONDS, not the latest ones");
        begun("c3 w0w1 m0:9 r0", "p60:16");
        call("go", 90);
        tells(1, 30, "cell", 0, 2);
        call("go", 5);
        tells(1, 30, "cell", 0, 2);
    }

    // ---- the promises

    private void nightRefused() {
        sentence(17, "BAD: a HARBOUR that is none");
        harbour(0, "c3");
        harbour(3, "c3");
        sea(0, "");
        bounds("night", 0, 0, 3, 0, 0);
        sentence(17, "BAD: a SEA that is none");
        harbour(0, "c3");
        sea(0, "");
        sea(3, "");
        bounds("night", 1, 0, 3, 0, 0);
        sentence(17, "BAD ahead of NOTHING");
        refused(BAD, "night", 0, 4);
        refused(BAD, "night", -1, 0);
        sentence(17, "NOTHING: either");
        finds(NOTHING, "night", 0, 0);
        harbour(0, "c3");
        finds(NOTHING, "night", 0, 0);
        anew();
        sea(0, "");
        finds(NOTHING, "night", 0, 0);
        sentence(17, "NOTHING leaves the NIGHT that is");
        begun("c3 m0:8 r0", "p10:32");
        call("go", 3);
        finds(NOTHING, "night", 1, 0);
        finds(NOTHING, "night", 0, 1);
        heights(23, 11, 1);
        sentence(17, "STATE: a SHIP at a CELL that it has not: one behind the last");
        harbour(0, "c3");
        sea(0, "");
        call("ship", 0, 3, 1, 1, 0, 1);
        refused(STATE, "night", 0, 0);
        call("ship", 0, 2, 1, 1, 0, 1);
        answers(3, "night", 0, 0);
        sentence(17, "STATE: whichever SHIP it is");
        harbour(0, "c3");
        sea(0, "");
        call("ship", 0, 0, 1, 1, 0, 1);
        call("ship", 1, 1, 1, 1, 0, 1);
        call("ship", 2, 15, 1, 1, 0, 1);
        refused(STATE, "night", 0, 0);
        call("leave", 2);
        answers(3, "night", 0, 0);
        call("ship", 1, 3, 1, 1, 0, 1);
        refused(STATE, "night", 0, 0);
        sentence(17, "STATE leaves the NIGHT that is");
        begun("c3 m0:8 r0", "p10:32");
        call("go", 3);
        call("ship", 0, 15, 1, 1, 0, 1);
        refused(STATE, "night", 0, 0);
        answers(3, "count", 4);
        heights(23, 11, 1);
        sentence(17, "STATE last: NOTHING is ahead of it");
        harbour(0, "c3");
        call("ship", 0, 15, 1, 1, 0, 1);
        finds(NOTHING, "night", 0, 0);
    }

    private void nightBegun() {
        sentence(17, "how many CELLS: the fewest, the most");
        harbour(0, "c3");
        harbour(3, "c16");
        sea(3, "");
        answers(3, "night", 0, 3);
        answers(16, "night", 3, 3);
        sentence(17, "SECOND 0 first");
        begun("c3", "");
        answers(0, "count", 4);
        answers(0, "go", 0);
        sentence(17, "A NIGHT is begun (SHIPS at 0), also where there was one");
        call("ship", 0, 1, 1, 2, 0, 5);
        begun("c3 m0:8 r0", "p10:32");
        call("go", 30);
        answers(3, "night", 0, 0);
        answers(0, "count", 4);
        rideIs(0, 0, 0, 0, NONE);
        heights(0, 0, 0);
        flowIs(0, 0);
        tells(1, 0, "cell", 0, 2);
        call("go", 3);
        heights(23, 11, 1);
        rideIs(0, 3, 2, 6, 2);
        tells(1, 7, "cell", 0, 2);
        sentence(17, "begun anew with fewer CELLS");
        begun("c16", "p10:32");
        call("go", 30);
        begun("c3", "p10:32");
        finds(BEYOND, "cell", 3, 0);
        sentence(17, "a SHIP that has left is not of the NIGHT that is begun then");
        call("ship", 0, 1, 1, 2, 0, 5);
        begun("c3", "");
        call("leave", 0);
        call("night", 0, 0);
        refused(STATE, "rides", 0, 0);
    }

    private void asItWasBegun() {
        sentence(0, "goes by a HARBOUR as it was when it was begun");
        begun("c3 m0:8 r0", "p10:32");
        call("go", 1);
        harbour(0, "c16 w0 m3:9 r9");
        call("go", 2);
        heights(23, 11, 1);
        finds(BEYOND, "cell", 3, 0);
        sentence(0, "goes by a SEA as it was when it was begun");
        begun("c3 m0:8 r0", "p10:32");
        call("go", 1);
        sea(0, "p2:99");
        call("go", 2);
        heights(23, 11, 1);
        sentence(0, "its SHIPS: one that leaves goes on in it");
        call("ship", 0, 1, 1, 2, 0, 5);
        begun("c3 m0:8 r0", "p10:32");
        call("go", 1);
        call("leave", 0);
        call("go", 2);
        rideIs(0, 3, 2, 6, 2);
        sentence(0, "its SHIPS: one that comes later is not in it");
        begun("c3 m0:8 r0", "p10:32");
        call("ship", 0, 1, 1, 2, 0, 5);
        call("go", 1);
        refused(STATE, "rides", 0, 0);
    }

    private void go() {
        sentence(18, "n (0 .. 400)");
        begun("c3", "");
        bounds("go", 0, 0, 400, 0);
        answers(400, "count", 4);
        sentence(18, "n 0: nothing goes by");
        begun("c3 m0:8 r0", "p10:32");
        call("go", 3);
        refused(3, "go", 0);
        sentence(18, "BAD ahead of STATE");
        refused(BAD, "go", -1);
        refused(BAD, "go", 401);
        sentence(18, "STATE: there is no NIGHT");
        refused(STATE, "go", 0);
        refused(STATE, "go", 1);
        refused(STATE, "go", 400);
        harbour(0, "c3");
        sea(0, "");
        refused(STATE, "go", 1);
        sentence(18, "SPENT: behind SECOND 10000");
        spend("c3 m0:8 r0", "p10:32");
        answers(10000, "go", 0);
        refused(SPENT, "go", 1);
        refused(SPENT, "go", 400);
        answers(10000, "count", 4);
        sentence(18, "SPENT: n too many by one, and none of them goes by");
        spendBut("c3 m0:8 r0", "p10:32", 399);
        answers(9601, "go", 0);
        refused(SPENT, "go", 400);
        answers(10000, "go", 399);
        sentence(18, "up to SECOND 10000 it goes");
        spendBut("c3", "", 1);
        answers(9999, "go", 0);
        refused(SPENT, "go", 2);
        answers(10000, "go", 1);
        sentence(18, "BAD ahead of SPENT");
        spend("c3", "");
        refused(BAD, "go", 401);
        refused(BAD, "go", -1);
        sentence(18, "a NIGHT that is begun behind a spent one goes");
        spend("c3", "");
        call("night", 0, 0);
        answers(400, "go", 400);
        sentence(18, "n SECONDS at once are as many one by one");
        begun("c3 m0:8 r2", "p10:32");
        call("go", 100);
        long at = call("digest");
        anew();
        begun("c3 m0:8 r2", "p10:32");
        for (int i = 0; i < 100; i++) {
            answers(i + 1, "go", 1);
        }
        answers(at, "digest");
    }

    private void spendBut(String harbour, String sea, int left) {
        begun(harbour, sea);
        for (int i = 0; i < 24; i++) {
            call("go", 400);
        }
        call("go", 400 - left);
    }

    private void spend(String harbour, String sea) {
        spendBut(harbour, sea, 0);
    }

    private void cell() {
        sentence(19, "BAD: not 0 .. 15");
        begun("c16", "");
        bounds("cell", 0, 0, 15, 0, 0);
        sentence(19, "BAD: what is none of 0, 1, 2");
        begun("c3", "");
        bounds("cell", 1, 0, 2, 0, 0);
        sentence(19, "BAD ahead of STATE");
        refused(BAD, "cell", 16, 0);
        refused(BAD, "cell", -1, 0);
        refused(BAD, "cell", 0, 3);
        sentence(19, "STATE");
        refused(STATE, "cell", 0, 0);
        sentence(19, "STATE ahead of BEYOND");
        harbour(0, "c3");
        refused(STATE, "cell", 15, 0);
        sentence(19, "BEYOND: no such CELL");
        begun("c3", "");
        for (int what = 0; what < 3; what++) {
            answers(1, "cell", 2, what);
            finds(BEYOND, "cell", 3, what);
            finds(BEYOND, "cell", 15, what);
        }
        sentence(19, "RANGE (0 before a SECOND)");
        begun("c3 m0:8 r0", "p10:32");
        tells(1, 0, "cell", 0, 2);
        call("go", 30);
        call("night", 0, 0);
        tells(1, 0, "cell", 0, 2);
        sentence(19, "the FLOW behind the last CELL is 0");
        begun("c3 m0:8 r0", "p10:32");
        call("go", 30);
        tells(1, 0, "cell", 2, 1);
    }

    private void rides() {
        sentence(20, "BAD: a SHIP that is none");
        for (int s = 0; s < 3; s++) {
            call("ship", s, 0, 1, 1, 0, 1);
        }
        begun("c3", "");
        bounds("rides", 0, 0, 2, 0, 0);
        sentence(20, "BAD: what is none of 0 .. 3");
        call("ship", 0, 0, 1, 1, 0, 1);
        begun("c3", "");
        bounds("rides", 1, 0, 3, 0, 0);
        sentence(20, "BAD ahead of STATE");
        refused(BAD, "rides", 3, 0);
        refused(BAD, "rides", 0, 4);
        sentence(20, "STATE: no NIGHT");
        call("ship", 0, 0, 1, 1, 0, 1);
        refused(STATE, "rides", 0, 0);
        sentence(20, "STATE: she was missing as it was begun");
        begun("c3", "");
        refused(STATE, "rides", 0, 0);
        call("ship", 0, 0, 1, 1, 0, 1);
        refused(STATE, "rides", 0, 0);
        call("night", 0, 0);
        answers(1, "rides", 0, 0);
        sentence(20, "NONE: her lines did not PART");
        call("ship", 2, 0, 1, 1, 0, 1);
        begun("c3", "");
        tells(1, NONE, "rides", 2, 3);
        call("go", 400);
        tells(1, NONE, "rides", 2, 3);
    }

    private void gaugeRefused() {
        sentence(21, "BAD (a CELL 0 .. 15)");
        begun("c16", "");
        bounds("gauge", 0, 0, 15, 0, 1, 0);
        sentence(21, "BAD: n (0 .. 60)");
        begun("c3", "");
        bounds("gauge", 1, 0, 60, 0, 1, 0);
        sentence(21, "BAD: a ROW that is none");
        begun("c3", "");
        bounds("gauge", 2, 0, 5, 0, 1, 0);
        sentence(21, "BAD ahead of STATE");
        refused(BAD, "gauge", 16, 1, 0);
        refused(BAD, "gauge", 0, 61, 0);
        refused(BAD, "gauge", 0, -1, 0);
        refused(BAD, "gauge", 0, 1, 6);
        sentence(21, "STATE");
        refused(STATE, "gauge", 0, 0, 0);
        refused(STATE, "gauge", 0, 60, 0);
        sentence(21, "STATE ahead of BEYOND");
        refused(STATE, "gauge", 15, 1, 0);
        sentence(21, "BEYOND: no such CELL; the ROW and the NIGHT stay");
        begun("c3", "p10:32");
        row(0, 1, 2);
        finds(BEYOND, "gauge", 3, 1, 0);
        finds(BEYOND, "gauge", 15, 0, 0);
        sentence(21, "SPENT; the ROW and the NIGHT stay");
        spend("c3", "p10:32");
        row(0, 1, 2);
        refused(SPENT, "gauge", 0, 1, 0);
        refused(SPENT, "gauge", 0, 60, 5);
        sentence(21, "SPENT: n too many by one");
        spendBut("c3", "p10:32", 59);
        refused(SPENT, "gauge", 0, 60, 0);
        answers(10000, "gauge", 0, 59, 0);
        sentence(21, "BEYOND ahead of SPENT");
        spend("c3", "");
        finds(BEYOND, "gauge", 3, 1, 0);
        sentence(21, "BAD ahead of SPENT");
        spend("c3", "");
        refused(BAD, "gauge", 0, 61, 0);
        sentence(21, "n 0 in SECOND 10000 is not SPENT");
        spend("c3", "");
        answers(10000, "gauge", 0, 0, 0);
    }

    private void gauge() {
        sentence(21, "n 0: a ROW of none, and no SECOND goes by");
        begun("c3 m0:8 r0", "p10:32");
        row(4, 1, 2);
        answers(0, "gauge", 0, 0, 4);
        holds(4);
        answers(0, "count", 4);
        sentence(21, "n 60: a full ROW");
        begun("c3 m0:8 r0", "p10:32");
        answers(60, "gauge", 1, 60, 0);
        tells(1, 0, "at", 0, 0);
        tells(1, 4, "at", 0, 1);
        tells(1, 11, "at", 0, 2);
        call("cell", 1, 0);
        tells(1, call("asked"), "at", 0, 59);
        finds(BEYOND, "at", 0, 60);
        sentence(21, "behind the next SECONDS, the NIGHT going on so");
        call("ship", 0, 1, 1, 2, 0, 5);
        begun("c3 m0:8 r0", "p10:32");
        call("go", 1);
        answers(3, "gauge", 2, 2, 0);
        holds(0, 0, 1);
        heights(23, 11, 1);
        rideIs(0, 3, 2, 6, 2);
        tells(1, 7, "cell", 0, 2);
        sentence(21, "to a ROW (anew): one that was missing, one that was longer");
        begun("c3 m0:8 r0", "p10:32");
        row(1, 9, 9, 9, 9);
        answers(2, "gauge", 0, 2, 0);
        holds(0, 16, 22);
        answers(3, "gauge", 0, 1, 1);
        holds(1, 23);
    }

    private void keep() {
        sentence(22, "a place (0 .. 2)");
        begun("c3", "");
        bounds("keep", 0, 0, 2, 0);
        sentence(22, "BAD ahead of STATE");
        refused(BAD, "keep", 3);
        refused(BAD, "keep", -1);
        sentence(22, "STATE");
        refused(STATE, "keep", 0);
        sentence(22, "its SECOND: 0, 10000");
        begun("c3", "");
        answers(0, "keep", 0);
        call("night", 0, 0);
        spend("c3", "");
        answers(10000, "keep", 1);
        answers(0, "on", 0);
        answers(10000, "on", 1);
        refused(SPENT, "go", 1);
        sentence(22, "kept in each place, and over what was kept there");
        begun("c3", "");
        for (int k = 0; k < 3; k++) {
            call("go", 1);
            answers(k + 1, "keep", k);
            answers(k + 1, "count", 5);
        }
        call("go", 7);
        answers(10, "keep", 1);
        answers(3, "count", 5);
        answers(1, "on", 0);
        answers(10, "on", 1);
        answers(3, "on", 2);
        sentence(22, "keeping changes nothing of the NIGHT");
        begun("c3 m0:8 r0", "p10:32");
        call("go", 2);
        call("keep", 0);
        call("go", 1);
        heights(23, 11, 1);
    }

    private void on() {
        sentence(23, "BAD");
        begun("c3", "");
        call("keep", 0);
        call("keep", 2);
        bounds("on", 0, 0, 2, 0);
        sentence(23, "BAD ahead of NOTHING");
        refused(BAD, "on", 3);
        refused(BAD, "on", -1);
        sentence(23, "NOTHING: a kept NIGHT that is missing");
        begun("c3", "p10:32");
        call("go", 5);
        call("keep", 1);
        finds(NOTHING, "on", 0);
        finds(NOTHING, "on", 2);
        sentence(23, "The NIGHT is as it was kept: all of it, whatever came later");
        call("ship", 0, 1, 1, 2, 0, 5);
        begun("c3 m0:8 r0", "p10:32");
        call("go", 2);
        call("keep", 0);
        call("leave", 0);
        call("ship", 1, 2, 1, 1, 0, 1);
        harbour(0, "c16 w0 m3:9 r9");
        sea(0, "p2:99");
        call("night", 0, 0);
        call("go", 77);
        answers(2, "on", 0);
        answers(2, "count", 4);
        heights(22, 4, 0);
        flowIs(0, 4);
        tells(1, 6, "cell", 0, 2);
        rideIs(0, 1, 1, 2, NONE);
        refused(STATE, "rides", 1, 0);
        finds(BEYOND, "cell", 3, 0);
        answers(3, "go", 1);
        heights(23, 11, 1);
        tells(1, 7, "cell", 0, 2);
        rideIs(0, 3, 2, 6, 2);
        sentence(23, "as it was kept: its SHIPS, though they are others now, at other CELLS");
        call("ship", 0, 1, 1, 2, 0, 5);
        begun("c3 m0:8 r0", "p10:32");
        call("go", 2);
        call("keep", 0);
        call("ship", 0, 2, 9, 9, 30, 9999);
        call("night", 0, 0);
        call("go", 9);
        answers(2, "on", 0);
        call("go", 1);
        rideIs(0, 3, 2, 6, 2);
        sentence(23, "as it was kept: lines that had PARTED");
        call("ship", 0, 1, 1, 2, 0, 5);
        begun("c3 m0:8 r0", "p10:32");
        call("go", 3);
        call("keep", 2);
        call("night", 0, 0);
        rideIs(0, 0, 0, 0, NONE);
        answers(3, "on", 2);
        rideIs(0, 3, 2, 6, 2);
        sentence(23, "what is kept stays kept, and may be gone on from again");
        begun("c3 m0:8 r0", "p10:32");
        call("go", 2);
        call("keep", 2);
        for (int i = 0; i < 3; i++) {
            answers(2, "on", 2);
            answers(3, "go", 1);
            heights(23, 11, 1);
        }
        answers(1, "count", 5);
        sentence(23, "on() by a smaller NIGHT, then by a greater one");
        begun("c16 m0:8 r0", "p10:32");
        call("go", 40);
        call("keep", 0);
        long great = call("water") == 1 ? call("asked") : 0;
        begun("c3 m0:8 r0", "p10:32");
        call("go", 3);
        call("keep", 1);
        answers(40, "on", 0);
        tells(1, great, "water");
        answers(3, "on", 1);
        tells(1, 35, "water");
        finds(BEYOND, "cell", 3, 0);
        answers(40, "on", 0);
        answers(1, "cell", 15, 0);
    }

    private void water() {
        sentence(24, "STATE");
        harbour(0, "c3");
        sea(0, "");
        refused(STATE, "water");
        sentence(24, "HEIGHTS of all CELLS together: 0 at first");
        begun("c16 m15:9", "p10:99");
        tells(1, 0, "water");
        sentence(24, "HEIGHTS of all CELLS together: the first, the last one among them");
        begun("c3 m0:8 r0", "p10:32");
        call("go", 3);
        tells(1, 35, "water");
        anew();
        begun("c3 m2:8 r0", "p10:32");
        call("go", 3);
        tells(1, 35, "water");
        sentence(24, "HEIGHTS of all CELLS together: below 0");
        begun("c3 w0w1 m0:9 r0", "p2:16");
        call("go", 2);
        tells(1, -5, "water");
        sentence(24, "only CELLS of this NIGHT");
        begun("c16 m15:9", "p10:99");
        call("go", 5);
        begun("c3 m0:8 r0", "p10:32");
        call("go", 1);
        tells(1, 16, "water");
    }
}
