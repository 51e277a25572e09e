import java.util.ArrayList;
import java.util.List;

/** "Terms", ahead of the promises: the order of what is refused, and that it changes nothing; FINDINGS; bits. */
public final class EdgesOfTermsTest extends Sentences {
    public static void main(String[] args) {
        EdgesOfTermsTest t = new EdgesOfTermsTest();
        t.constants();
        t.order();
        t.changesNothing();
        t.nothing();
        t.otherFindings();
        t.bits();
        t.strangers();
        t.end();
    }

    private void constants() {
        sentence(0, "BAD -1, FULL -2, STATE -4, SPENT -6, FINDING -3; NONE -9");
        due("BAD", SurgeBasin.BAD, -1);
        due("FULL", SurgeBasin.FULL, -2);
        due("FINDING", SurgeBasin.FINDING, -3);
        due("STATE", SurgeBasin.STATE, -4);
        due("SPENT", SurgeBasin.SPENT, -6);
        due("NONE", SurgeBasin.NONE, -9);
    }

    private void order() {
        sentence(0, "the first of these that fits: BAD ahead of FULL");
        for (int i = 0; i < 5; i++) {
            call("work", 0, 0, 0, 0);
        }
        refused(BAD, "work", 0, 16, 0, 0);
        refused(FULL, "work", 0, 15, 0, 0);
        sentence(0, "the first of these that fits: BAD ahead of STATE");
        refused(BAD, "go", 401);
        refused(STATE, "go", 400);
        refused(BAD, "keep", 3);
        refused(STATE, "keep", 2);
        sentence(0, "the first of these that fits: BAD ahead of SPENT");
        spend();
        refused(BAD, "go", 401);
        refused(SPENT, "go", 400);
        sentence(0, "the first of these that fits: BAD ahead of FINDING");
        refused(BAD, "on", 3);
        finds(NOTHING, "on", 2);
        refused(BAD, "row", 6, -1);
        finds(SIZE, "row", 5, -1);
        sentence(0, "the first of these that fits: STATE ahead of FINDING");
        refused(STATE, "cell", 15, 0);
        refused(STATE, "pull", 0, 0, 0);
        refused(STATE, "odds", 0, 0);
        sentence(0, "unless a call says so otherwise: FINDING ahead of STATE, of SPENT");
        finds(NOTHING, "harbour", 0, 0);
        finds(NOTHING, "sea", 0, 0);
        finds(NOTHING, "tonight", 0, 0, 0);
        call("ship", 0, 15, 1, 1, 0, 1);
        finds(NOTHING, "night", 0, 0);
        call("leave", 0);
        spend();
        finds(BEYOND, "gauge", 3, 1, 0);
    }

    private void spend() {
        harbour(0, "c3");
        sea(0, "");
        call("night", 0, 0);
        for (int i = 0; i < 25; i++) {
            call("go", 400);
        }
    }

    // Calls that are refused in every state of the run below.
    private static final String REFUSED = "row 6 1;row 0 61;row 0 -1;lay 5 0 1;lay 0 60 1;at -1 0;tear 5;copy 0 0 0 0 -1;"
            + "copy 0 0 5 0 1;mean 5;text 0 -1;text 0 101;put 2 0 1;put 0 100 1;fault 2 0;harbour 0 2;harbour 4 0;sea 0 2;"
            + "sea 0 -1;about 0 21;about 3 0;set 3 0;set 0 -1;ship 0 16 1 1 0 1;ship 0 0 0 1 0 1;leave 2;leave 3;night 3 0;"
            + "night 0 3;night 4 0;go -1;go 401;cell 16 0;cell 0 3;cell 6 0;rides 2 0;rides 0 4;gauge 0 61 0;gauge 7 1 0;"
            + "keep 3;on 2;on 3;beat 5;beat 6;span 5;span -1;ring 3 0;ring 0 16;ring 0 6;roll 2;roll 3;kind 0 3 0 0;"
            + "kind 3 0 0 0;kind 2 2 0 0;kind 1 0 4 0;mark 0 0 0 0 0;mark 0 3 0 0 1;mark 2 0 0 0 1;quiet 3 0;quiet 0 4;"
            + "still 0 3;still 4 0;wakes 3;wakes 4;pull 2 0 0;pull 0 3 0;tight 2 0 0;tight 0 0 3;where 2 0 0;where 0 3 0;"
            + "tonight 3 0 0;tonight 0 0 6;odds 2 0;odds 0 3;work 6 0 0 0;work 0 0 0 100;back 6;back -1;does 3 0 0;"
            + "does 0 0 32;worse 3 0;worse 0 4;least 3 0 0;least 0 0 501;since 3 0 0 0 0;since 0 0 0 5 0;since 0 0 16 0 0;"
            + "which 3 0 0;which 0 6 0;which 0 0 6;count 8;findings 6;findings 0";

    private static final String RUN = "night 0 0;go 20;keep 0;go 33;cell 0 2;asked;cell 3 0;asked;rides 0 0;asked;rides 0 2;"
            + "asked;rides 0 3;asked;gauge 2 30 1;mean 1;asked;beat 1;upper;lower;span 1;asked;on 0;cell 0 2;asked;cell 5 2;"
            + "asked;rides 0 2;asked;rides 1 3;asked;go 5;water;asked;ring 0 2;upper;lower;roll 0;upper;kind 1 0 0 0;"
            + "mark 0 0 0 0 1;quiet 0 0;asked;still 0 1;asked;wakes 0;asked;pull 0 0 0;asked;tight 1 0 0;asked;where 0 0 1;"
            + "asked;tonight 0 0 4;asked;at 4 1;asked;odds 0 0;upper;lower;does 0 0 3;asked;worse 0 0;asked;least 0 0 50;"
            + "asked;since 0 0 2 2 1;asked;which 0 2 1;asked;work 3 0 1 1;back 1;put 0 0 99;about 0 8;asked;set 0 0;asked;"
            + "leave 1;digest;count 4;count 5";

    private void setUp() {
        write(0, "c6 d3:7 m0:5 r1");
        call("harbour", 0, 0);
        write(1, "p14:30 p20:50");
        call("sea", 0, 1);
        write(1, "p40:99");
        call("sea", 1, 1);
        call("ship", 0, 3, 2, 3, 5, 60);
        call("ship", 1, 5, 9, 1, 0, 9999);
        call("work", 3, 0, 2, 25);
        call("work", 4, 2, 3, 9);
        row(0, 1, 2, 3);
    }

    private long callOf(String line) {
        String[] words = line.split(" ");
        int[] a = new int[words.length - 1];
        for (int i = 0; i < a.length; i++) {
            a[i] = Integer.parseInt(words[i + 1]);
        }
        return call(words[0], a);
    }

    // One run as it is, then once more for some of the refused calls, one ahead of each of its calls.
    private void changesNothing() {
        sentence(0, "What is refused changes nothing but finding(), findings(): nor what comes later");
        String[] run = RUN.split(";");
        String[] refused = REFUSED.split(";");
        setUp();
        List<Long> want = new ArrayList<>();
        for (String line : run) {
            want.add(callOf(line));
        }
        for (int shift = 0; shift < refused.length; shift += 13) {
            anew();
            setUp();
            for (int i = 0; i < run.length; i++) {
                String between = refused[(i + shift) % refused.length];
                due(between + " is not refused ahead of " + run[i], callOf(between) < 0 ? 0 : 1, 0);
                due(run[i] + " behind " + between, callOf(run[i]), want.get(i));
            }
        }
        sentence(0, "What is refused changes nothing: of a full state, by all that can be seen");
        for (int from = 0; from < refused.length; from += 20) {
            anew();
            setUp();
            call("night", 0, 0);
            call("go", 20);
            call("keep", 0);
            call("gauge", 2, 30, 1);
            long before = call("digest");
            for (int i = from; i < refused.length && i < from + 20; i++) {
                long asked = call("asked");
                due(refused[i] + " is refused", callOf(refused[i]) < 0 ? 1 : 0, 1);
                due("digest() behind " + refused[i], call("digest"), before);
                due("asked() behind " + refused[i], call("asked"), asked);
            }
        }
    }

    private void nothing() {
        sentence(0, "1 NOTHING: a ROW that is missing");
        finds(1, "at", 0, 0);
        finds(1, "beat", 0);
        sentence(0, "1 NOTHING: a TEXT that is missing");
        finds(1, "put", 0, 0, 0);
        finds(1, "fault", 0, 0);
        sentence(0, "1 NOTHING: a HARBOUR that is missing");
        finds(1, "about", 0, 0);
        finds(1, "ring", 0, 0);
        sentence(0, "1 NOTHING: a SEA that is missing");
        finds(1, "set", 0, 0);
        harbour(0, "c3");
        finds(1, "wakes", 0);
        sentence(0, "1 NOTHING: a kept NIGHT that is missing");
        finds(1, "on", 0);
    }

    private void otherFindings() {
        sentence(0, "2 BEYOND: a place that there is not");
        row(0, 1);
        finds(2, "at", 0, 1);
        harbour(0, "c3");
        finds(2, "about", 0, 8);
        sentence(0, "3 UNLIKE: a BEAT of another KIND");
        call("ship", 0, 0, 1, 1, 0, 1);
        finds(3, "mark", 2, 0, 0, 0, 1);
        sentence(0, "3 UNLIKE: a number that is none");
        harbour(0, "c3");
        sea(0, "");
        row(0, 10001);
        finds(3, "which", 0, 0, 0);
        sentence(0, "4 NOUGHT: shared among none");
        row(0);
        finds(4, "mean", 0);
        sentence(0, "4 NOUGHT: what never comes again");
        row(0, -1, 1);
        finds(4, "beat", 0);
        finds(4, "span", 0);
        sentence(0, "5 SIZE: fewer than none");
        finds(5, "row", 0, -1);
        finds(5, "text", 0, -1);
        finds(5, "copy", 0, 0, 0, 0, -1);
        sentence(0, "5 SIZE: not as many as due");
        harbour(0, "c3");
        sea(0, "");
        row(0);
        finds(5, "which", 0, 0, 0);
    }

    private void bits() {
        sentence(0, "Sets are told by bits");
        harbour(0, "c5 w0 w3");
        tells(1, 9, "about", 0, 4);
        harbour(0, "c5 m1:4");
        sea(0, "p9:80");
        call("work", 0, 15, 0, 0);
        call("work", 3, 0, 9, 5);
        call("work", 3, 0, 9, 4);
        tells(0, 6, "worse", 0, 0);
        tells(4, 0, "least", 0, 0, 500);
    }

    private void strangers() {
        sentence(0, "no call throws, whatever numbers come");
        int[] odd = {LOW, -1, 0, 1, 7, 16, 100, HIGH};
        String[] names = {"row", "lay", "at", "tear", "copy", "mean", "text", "put", "fault", "harbour", "sea", "about",
            "set", "ship", "leave", "night", "go", "cell", "rides", "gauge", "keep", "on", "beat", "span", "ring", "roll",
            "kind", "mark", "quiet", "still", "wakes", "pull", "tight", "where", "tonight", "odds", "work", "back", "does",
            "worse", "least", "since", "which", "count", "findings"};
        for (String name : names) {
            anew();
            setUp();
            call("night", 0, 0);
            for (int v : odd) {
                for (int at = 0; at < 6; at++) {
                    int[] a = new int[6];
                    a[at] = v;
                    call(name, a);
                    call(name, filled(6, v));
                }
            }
        }
    }
}
