/** The edges of promises 1 to 9: a new object, ROWS, TEXTS byte by byte. */
public final class EdgesOfRowsTest extends Sentences {
    public static void main(String[] args) {
        EdgesOfRowsTest t = new EdgesOfRowsTest();
        t.newObject();
        t.row();
        t.lay();
        t.at();
        t.tear();
        t.copyRefused();
        t.copyAtEnds();
        t.copyOntoItself();
        t.mean();
        t.text();
        t.put();
        t.end();
    }

    private void newObject() {
        sentence(1, "No ROWS");
        answers(0, "count", 6);
        for (int r = 0; r < 6; r++) {
            finds(NOTHING, "at", r, 0);
        }
        sentence(1, "No TEXTS");
        answers(0, "count", 7);
        for (int t = 0; t < 4; t++) {
            finds(NOTHING, "put", t, 0, 0);
        }
        sentence(1, "No HARBOURS");
        answers(0, "count", 0);
        for (int k = 0; k < 4; k++) {
            finds(NOTHING, "about", k, 0);
        }
        sentence(1, "No SEAS");
        answers(0, "count", 1);
        for (int k = 0; k < 4; k++) {
            finds(NOTHING, "set", k, 0);
        }
        sentence(1, "No SHIPS");
        answers(0, "count", 2);
        for (int s = 0; s < 3; s++) {
            refused(STATE, "leave", s);
            refused(STATE, "roll", s);
        }
        sentence(1, "No WORKS");
        answers(0, "count", 3);
        refused(BAD, "back", 1);
        answers(0, "back", 0);
        sentence(1, "No NIGHT");
        answers(0, "count", 4);
        answers(0, "count", 5);
        refused(STATE, "go", 0);
        refused(STATE, "water");
        for (int k = 0; k < 3; k++) {
            refused(STATE, "keep", k);
            finds(NOTHING, "on", k);
        }
        sentence(1, "a second object is a new one whatever the first one holds");
        long empty = call("digest");
        row(0, 5);
        write(0, "c5");
        call("harbour", 0, 0);
        call("ship", 0, 0, 1, 1, 0, 1);
        anew();
        answers(empty, "digest");
    }

    private void row() {
        sentence(0, "ROWS 0 .. 5");
        for (int r = 0; r < 6; r++) {
            answers(1, "row", r, 1);
            answers(r + 1, "count", 6);
        }
        sentence(2, "BAD: a ROW that is none");
        bounds("row", 0, 0, 5, 0, 3);
        sentence(2, "BAD: also n above 60");
        row(0, 7, 8);
        refused(BAD, "row", 0, 61);
        refused(BAD, "row", 0, HIGH);
        refused(BAD, "row", 1, 61);
        holds(0, 7, 8);
        sentence(2, "rows of 0 to 60 ints: 60");
        answers(60, "row", 0, 60);
        holds(0, new int[60]);
        sentence(2, "rows of 0 to 60 ints: 0");
        answers(0, "row", 0, 0);
        answers(1, "count", 6);
        finds(BEYOND, "at", 0, 0);
        sentence(2, "SIZE: below 0");
        row(0, 7, 8);
        finds(SIZE, "row", 0, -1);
        finds(SIZE, "row", 0, LOW);
        finds(SIZE, "row", 1, -1);
        holds(0, 7, 8);
        sentence(2, "BAD ahead of SIZE");
        refused(BAD, "row", -1, -1);
        refused(BAD, "row", 6, LOW);
        sentence(2, "with n ints 0: also where there were others");
        row(0, 1, 2, 3);
        answers(2, "row", 0, 2);
        holds(0, 0, 0);
        answers(3, "row", 0, 3);
        holds(0, 0, 0, 0);
    }

    private void lay() {
        sentence(3, "Place i of a ROW is v: the first, the last place; the least, the greatest v");
        row(5, 1, 2, 3);
        tells(1, 1, "lay", 5, 0, LOW);
        tells(1, 3, "lay", 5, 2, HIGH);
        holds(5, LOW, 2, HIGH);
        sentence(3, "what it was, told by asked()");
        row(0, 0);
        tells(1, 0, "lay", 0, 0, HIGH);
        tells(1, HIGH, "lay", 0, 0, LOW);
        tells(1, LOW, "lay", 0, 0, 0);
        sentence(3, "Place 59 of 60");
        row(0, new int[60]);
        tells(1, 0, "lay", 0, 59, 4);
        tells(1, 4, "at", 0, 59);
        finds(BEYOND, "lay", 0, 60, 4);
        sentence(3, "BAD");
        row(0, 1);
        row(5, 1);
        bounds("lay", 0, 0, 5, 0, 0, 9);
        sentence(3, "BAD ahead of NOTHING, BEYOND");
        refused(BAD, "lay", 6, -1, 9);
        sentence(3, "NOTHING");
        row(0, 1);
        finds(NOTHING, "lay", 1, 0, 9);
        sentence(3, "NOTHING ahead of BEYOND");
        finds(NOTHING, "lay", 1, -1, 9);
        sentence(3, "BEYOND");
        row(0, 1, 2);
        finds(BEYOND, "lay", 0, 2, 9);
        finds(BEYOND, "lay", 0, -1, 9);
        finds(BEYOND, "lay", 0, LOW, 9);
        finds(BEYOND, "lay", 0, HIGH, 9);
        sentence(3, "BEYOND: any place of a ROW of none");
        row(0);
        finds(BEYOND, "lay", 0, 0, 9);
        sentence(3, "BEYOND: a place that an earlier, longer ROW had");
        row(0, 1, 2, 3);
        row(0, 1);
        finds(BEYOND, "lay", 0, 1, 9);
    }

    private void at() {
        sentence(4, "Place i of a ROW, told by asked(): the first, the last one");
        row(5, LOW, 2, HIGH);
        tells(1, LOW, "at", 5, 0);
        tells(1, HIGH, "at", 5, 2);
        sentence(4, "BAD");
        row(0, 1);
        row(5, 1);
        bounds("at", 0, 0, 5, 0, 0);
        sentence(4, "BAD ahead of NOTHING, BEYOND");
        refused(BAD, "at", -1, -1);
        sentence(4, "NOTHING");
        row(0, 1);
        finds(NOTHING, "at", 1, 0);
        sentence(4, "NOTHING ahead of BEYOND");
        finds(NOTHING, "at", 1, 60);
        sentence(4, "BEYOND");
        row(0, 1, 2);
        finds(BEYOND, "at", 0, 2);
        finds(BEYOND, "at", 0, -1);
        finds(BEYOND, "at", 0, LOW);
        finds(BEYOND, "at", 0, HIGH);
        sentence(4, "BEYOND: behind the last of 60");
        row(0, new int[60]);
        finds(BEYOND, "at", 0, 60);
    }

    private void tear() {
        sentence(5, "A ROW is missing: the first, the last one, and no other");
        row(0, 1);
        row(1, 2);
        row(5, 3);
        answers(1, "tear", 0);
        answers(1, "tear", 5);
        answers(1, "count", 6);
        finds(NOTHING, "at", 0, 0);
        finds(NOTHING, "at", 5, 0);
        holds(1, 2);
        sentence(5, "A ROW of none is there, and may be torn");
        row(3);
        answers(1, "tear", 3);
        answers(0, "count", 6);
        sentence(5, "BAD");
        bounds("tear", 0, 0, 5, 0);
        sentence(5, "NOTHING");
        finds(NOTHING, "tear", 2);
        sentence(5, "NOTHING: torn already");
        row(2, 1);
        answers(1, "tear", 2);
        finds(NOTHING, "tear", 2);
        sentence(5, "A torn ROW that is there anew has ints 0");
        row(2, 1, 2);
        answers(1, "tear", 2);
        answers(2, "row", 2, 2);
        holds(2, 0, 0);
    }

    private void copyRefused() {
        sentence(6, "BAD: the ROW from which");
        row(0, 1, 2);
        row(5, 1, 2);
        bounds("copy", 0, 0, 5, 0, 0, 0, 0, 1);
        sentence(6, "BAD: the ROW to which");
        row(0, 1, 2);
        row(5, 1, 2);
        bounds("copy", 2, 0, 5, 0, 0, 0, 0, 1);
        sentence(6, "BAD ahead of SIZE, NOTHING, BEYOND");
        refused(BAD, "copy", 6, -1, 0, -1, -1);
        refused(BAD, "copy", 0, -1, -1, -1, -1);
        sentence(6, "SIZE: n below 0");
        row(0, 1, 2);
        row(1, 3, 4);
        finds(SIZE, "copy", 0, 0, 1, 0, -1);
        finds(SIZE, "copy", 0, 2, 1, 2, -2);
        finds(SIZE, "copy", 0, 0, 1, 0, LOW);
        sentence(6, "SIZE ahead of NOTHING");
        finds(SIZE, "copy", 0, 0, 1, 0, -1);
        sentence(6, "SIZE ahead of BEYOND");
        row(0, 1, 2);
        finds(SIZE, "copy", 0, -1, 0, 3, -1);
        sentence(6, "NOTHING: either");
        row(0, 1, 2);
        finds(NOTHING, "copy", 0, 0, 1, 0, 1);
        finds(NOTHING, "copy", 1, 0, 0, 0, 1);
        finds(NOTHING, "copy", 1, 0, 1, 0, 0);
        sentence(6, "NOTHING ahead of BEYOND");
        row(0, 1, 2);
        finds(NOTHING, "copy", 0, 3, 1, 0, 1);
        finds(NOTHING, "copy", 1, 0, 0, -1, 1);
        sentence(6, "BEYOND: not so many there, from which");
        row(0, 1, 2);
        row(1, 3, 4, 5);
        finds(BEYOND, "copy", 0, 0, 1, 0, 3);
        finds(BEYOND, "copy", 0, 1, 1, 0, 2);
        finds(BEYOND, "copy", 0, 2, 1, 0, 1);
        finds(BEYOND, "copy", 0, -1, 1, 0, 1);
        finds(BEYOND, "copy", 0, HIGH, 1, 0, 1);
        finds(BEYOND, "copy", 0, HIGH, 1, 0, HIGH);
        finds(BEYOND, "copy", 0, LOW, 1, 0, HIGH);
        sentence(6, "BEYOND: not so many there, to which");
        row(0, 1, 2);
        row(1, 3, 4, 5);
        finds(BEYOND, "copy", 1, 0, 0, 0, 3);
        finds(BEYOND, "copy", 1, 0, 0, 1, 2);
        finds(BEYOND, "copy", 1, 0, 0, 2, 1);
        finds(BEYOND, "copy", 1, 0, 0, -1, 1);
        finds(BEYOND, "copy", 1, 0, 0, HIGH, 1);
        finds(BEYOND, "copy", 1, 0, 0, LOW, 1);
        sentence(6, "BEYOND also with n 0, if i is below 0, or above its size");
        row(0, 1, 2);
        row(1, 3, 4, 5);
        finds(BEYOND, "copy", 0, -1, 1, 0, 0);
        finds(BEYOND, "copy", 0, 3, 1, 0, 0);
        finds(BEYOND, "copy", 0, LOW, 1, 0, 0);
        finds(BEYOND, "copy", 0, HIGH, 1, 0, 0);
        sentence(6, "BEYOND also with n 0, if j is below 0, or above its size");
        row(0, 1, 2);
        row(1, 3, 4, 5);
        finds(BEYOND, "copy", 1, 0, 0, -1, 0);
        finds(BEYOND, "copy", 1, 0, 0, 3, 0);
        finds(BEYOND, "copy", 1, 0, 0, LOW, 0);
        finds(BEYOND, "copy", 1, 0, 0, HIGH, 0);
    }

    private void copyAtEnds() {
        sentence(6, "n 0 at the very size of either is none too many");
        row(0, 1, 2);
        row(1, 3, 4, 5);
        answers(1, "copy", 0, 2, 1, 3, 0);
        answers(1, "copy", 0, 0, 1, 0, 0);
        holds(0, 1, 2);
        holds(1, 3, 4, 5);
        sentence(6, "n 0 of ROWS of none");
        row(0);
        row(1);
        answers(1, "copy", 0, 0, 1, 0, 0);
        finds(BEYOND, "copy", 0, 0, 1, 0, 1);
        sentence(6, "n places: all of a full ROW");
        row(0, filled(60, 9));
        row(1, new int[60]);
        answers(1, "copy", 0, 0, 1, 0, 60);
        holds(1, filled(60, 9));
        sentence(6, "n places: up to the last ones of both, and no more");
        row(0, 1, 2, 3, 4);
        row(1, 5, 6, 7);
        answers(1, "copy", 0, 2, 1, 1, 2);
        holds(1, 5, 3, 4);
        holds(0, 1, 2, 3, 4);
        sentence(6, "copy() tells nothing by asked()");
        row(0, 1, 2);
        call("at", 0, 1);
        tells(1, 2, "copy", 0, 0, 0, 1, 1);
    }

    private void copyOntoItself() {
        sentence(6, "perhaps itself, as if taken ahead: to a later place");
        row(0, 1, 2, 3, 4, 5);
        answers(1, "copy", 0, 0, 0, 1, 4);
        holds(0, 1, 1, 2, 3, 4);
        sentence(6, "perhaps itself, as if taken ahead: to an earlier place");
        row(0, 1, 2, 3, 4, 5);
        answers(1, "copy", 0, 1, 0, 0, 4);
        holds(0, 2, 3, 4, 5, 5);
        sentence(6, "perhaps itself: to the same place");
        row(0, 1, 2, 3);
        answers(1, "copy", 0, 0, 0, 0, 3);
        holds(0, 1, 2, 3);
        sentence(6, "perhaps itself: not so many there");
        row(0, 1, 2, 3);
        finds(BEYOND, "copy", 0, 0, 0, 1, 3);
    }

    private void mean() {
        sentence(7, "NOUGHT: a ROW of none");
        row(0);
        finds(NOUGHT, "mean", 0);
        sentence(7, "cut: above 0");
        row(0, 1, 0);
        tells(1, 0, "mean", 0);
        row(0, 2, 2, 1);
        tells(1, 1, "mean", 0);
        sentence(7, "cut: below 0, toward 0");
        row(0, -1, 0);
        tells(1, 0, "mean", 0);
        row(0, -2, -2, -1);
        tells(1, -1, "mean", 0);
        sentence(7, "the mean of one");
        row(5, LOW);
        tells(1, LOW, "mean", 5);
        sentence(7, "no wrap-around: sixty of the greatest, of the least ints");
        row(0, filled(60, HIGH));
        tells(1, HIGH, "mean", 0);
        row(0, filled(60, LOW));
        tells(1, LOW, "mean", 0);
        sentence(7, "no wrap-around: the least and the greatest int");
        row(0, LOW, HIGH);
        tells(1, 0, "mean", 0);
        sentence(7, "only the ints that it has");
        row(0, 100, 100, 100);
        row(0, 3, 5);
        tells(1, 4, "mean", 0);
        sentence(7, "BAD");
        row(0, 1);
        row(5, 1);
        bounds("mean", 0, 0, 5, 0);
        sentence(7, "NOTHING");
        finds(NOTHING, "mean", 5);
    }

    private void text() {
        sentence(0, "TEXTS 0 .. 3");
        for (int t = 0; t < 4; t++) {
            answers(1, "text", t, 1);
            answers(t + 1, "count", 7);
        }
        sentence(8, "BAD: a TEXT that is none");
        bounds("text", 0, 0, 3, 0, 3);
        sentence(8, "BAD: also n above 100");
        write(0, "ab");
        refused(BAD, "text", 0, 101);
        refused(BAD, "text", 0, HIGH);
        refused(BAD, "text", 1, 101);
        answers(1097, "put", 0, 0, 0);
        sentence(8, "rows of 0 to 100 bytes: 100, all blanks");
        answers(100, "text", 3, 100);
        for (int i = 0; i < 100; i++) {
            answers(1032, "put", 3, i, 0);
        }
        finds(BEYOND, "put", 3, 100, 0);
        sentence(8, "rows of 0 to 100 bytes: 0");
        answers(0, "text", 0, 0);
        answers(1, "count", 7);
        finds(BEYOND, "put", 0, 0, 0);
        sentence(8, "SIZE: below 0");
        write(0, "ab");
        finds(SIZE, "text", 0, -1);
        finds(SIZE, "text", 0, LOW);
        finds(SIZE, "text", 1, -1);
        answers(1098, "put", 0, 1, 0);
        sentence(8, "BAD ahead of SIZE");
        refused(BAD, "text", 4, -1);
        refused(BAD, "text", -1, LOW);
        sentence(8, "with n blanks: also where there were others");
        write(0, "abc");
        answers(2, "text", 0, 2);
        answers(1032, "put", 0, 1, 'x');
        answers(3, "text", 0, 3);
        answers(1032, "put", 0, 1, 'x');
        answers(1032, "put", 0, 2, 'x');
    }

    private void putWraps(int v, int becomes) {
        answers(1032, "put", 0, 0, v);
        answers(1000 + becomes, "put", 0, 0, 32);
    }

    private void put() {
        sentence(9, "cut to a byte (-128 .. 127): the greatest, the least one");
        call("text", 0, 1);
        putWraps(127, 127);
        putWraps(-128, -128);
        sentence(9, "cut to a byte: above 127 it wraps around");
        call("text", 0, 1);
        putWraps(128, -128);
        putWraps(255, -1);
        putWraps(256, 0);
        putWraps(383, 127);
        putWraps(HIGH, -1);
        sentence(9, "cut to a byte: below -128 it wraps around");
        call("text", 0, 1);
        putWraps(-129, 127);
        putWraps(-256, 0);
        putWraps(LOW, 0);
        sentence(9, "what it was, and 1000 more: asked() is left as it was");
        row(0, 5);
        call("at", 0, 0);
        call("text", 0, 2);
        tells(1032, 5, "put", 0, 1, 'a');
        tells(1097, 5, "put", 0, 1, 'b');
        sentence(9, "BAD");
        call("text", 0, 1);
        call("text", 3, 1);
        bounds("put", 0, 0, 3, 0, 0, 65);
        sentence(9, "BAD ahead of NOTHING, BEYOND");
        refused(BAD, "put", 4, -1, 65);
        sentence(9, "NOTHING");
        call("text", 0, 1);
        finds(NOTHING, "put", 1, 0, 65);
        sentence(9, "NOTHING ahead of BEYOND");
        finds(NOTHING, "put", 1, -1, 65);
        sentence(9, "BEYOND");
        call("text", 0, 2);
        finds(BEYOND, "put", 0, 2, 65);
        finds(BEYOND, "put", 0, -1, 65);
        finds(BEYOND, "put", 0, LOW, 65);
        finds(BEYOND, "put", 0, HIGH, 65);
        sentence(9, "BEYOND: a byte that an earlier, longer TEXT had");
        call("text", 0, 9);
        call("text", 0, 1);
        finds(BEYOND, "put", 0, 1, 65);
    }
}
