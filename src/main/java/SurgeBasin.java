/**
 * A harbour that surges, the ships in it on their lines, and the works that would still it.
 * ../shared/DOC.md tells what each call answers; the names here are the document's.
 *
 * Everything is made once, in the constructor, and used again: no call makes an object.
 */
public final class SurgeBasin {
    public static final int BAD = -1, FULL = -2, FINDING = -3, STATE = -4, SPENT = -6, NONE = -9;

    private static final int NOTHING = 1, BEYOND = 2, UNLIKE = 3, NOUGHT = 4, SIZE = 5;

    private static final int BEAT_OF_BASIN = 1, BEAT_OF_SET = 2, BEAT_OF_SHIP = 3, BEAT_MET = 4, BEAT_DYING = 5;

    private static final int ROWS = 6, MOST_PLACES = 60, TEXTS = 4, MOST_BYTES = 100;
    private static final int HARBOURS = 4, FEWEST_CELLS = 3, MOST_CELLS = 16, MOST_WIDTH = 9, MOST_DEPTH = 9;
    private static final int SEAS = 4, MOST_SETS = 4, SHIPS = 3, MOST_TIGHTNESS = 9;
    private static final int MOST_WORKS = 5, WORK_KINDS = 6, KEPT = 3, COUNTS = 8;
    private static final int LAST_SECOND = 10000, MOST_SECONDS = 400;
    private static final int WOKEN_SECONDS = 300, RUNG_SECONDS = 400, DYING_SECONDS = 100, LOUD = 100;
    private static final int MOST_FLOAT = 10000;

    private final Numbers[] rows = new Numbers[ROWS];
    private final Letters[] texts = new Letters[TEXTS];
    private final Basin[] harbours = new Basin[HARBOURS];
    private final Swell[] seas = new Swell[SEAS];
    private final Boat[] ships = new Boat[SHIPS];
    private final Work[] works = new Work[MOST_WORKS];
    private final Night[] kept = new Night[KEPT];
    private final Night night = new Night(SHIPS);
    private final Night trial = new Night(SHIPS * MOST_CELLS);
    private final Reader reader = new Reader();
    private final Basin changed = new Basin();
    private final Swell calm = new Swell();
    private final Boat rolling = new Boat();
    private final Crossings crossings = new Crossings();
    private final int[] berths = new int[SHIPS];
    private final int[] found = new int[SIZE + 1];
    private int workCount = 0;
    private int lastFinding = 0;
    private int told = 0;
    private final Fraction fraction = new Fraction();

    public SurgeBasin() {
        for (int i = 0; i < ROWS; i++) {
            rows[i] = new Numbers();
        }
        for (int i = 0; i < TEXTS; i++) {
            texts[i] = new Letters();
        }
        for (int i = 0; i < HARBOURS; i++) {
            harbours[i] = new Basin();
        }
        for (int i = 0; i < SEAS; i++) {
            seas[i] = new Swell();
        }
        for (int i = 0; i < SHIPS; i++) {
            ships[i] = new Boat();
        }
        for (int i = 0; i < MOST_WORKS; i++) {
            works[i] = new Work();
        }
        for (int i = 0; i < KEPT; i++) {
            kept[i] = new Night(SHIPS);
        }
    }

    // ---- what all calls share

    private static boolean within(int v, int least, int most) {
        return v >= least && v <= most;
    }

    private static boolean isRow(int r) {
        return within(r, 0, ROWS - 1);
    }

    private static boolean isText(int t) {
        return within(t, 0, TEXTS - 1);
    }

    private static boolean isHarbour(int k) {
        return within(k, 0, HARBOURS - 1);
    }

    private static boolean isSea(int k) {
        return within(k, 0, SEAS - 1);
    }

    private static boolean isShip(int s) {
        return within(s, 0, SHIPS - 1);
    }

    private static boolean isCell(int k) {
        return within(k, 0, MOST_CELLS - 1);
    }

    private int refuse(int f) {
        lastFinding = f;
        if (within(f, NOTHING, SIZE)) {
            found[f]++;
        }
        return FINDING;
    }

    private int tell(int what, int answer) {
        told = what;
        return answer;
    }

    private boolean anySea() {
        for (int i = 0; i < SEAS; i++) {
            if (seas[i].there) {
                return true;
            }
        }
        return false;
    }

    // ---- 1 rows, texts, harbours, seas, ships

    public int row(int r, int n) {
        if (!isRow(r) || n > MOST_PLACES) {
            return BAD;
        }
        if (n < 0) {
            return refuse(SIZE);
        }
        rows[r].renew(n);
        return n;
    }

    public int lay(int r, int i, int v) {
        if (!isRow(r)) {
            return BAD;
        }
        if (!rows[r].there) {
            return refuse(NOTHING);
        }
        if (!rows[r].has(i)) {
            return refuse(BEYOND);
        }
        told = rows[r].places[i];
        rows[r].places[i] = v;
        return 1;
    }

    public int at(int r, int i) {
        if (!isRow(r)) {
            return BAD;
        }
        if (!rows[r].there) {
            return refuse(NOTHING);
        }
        if (!rows[r].has(i)) {
            return refuse(BEYOND);
        }
        return tell(rows[r].places[i], 1);
    }

    public int tear(int r) {
        if (!isRow(r)) {
            return BAD;
        }
        if (!rows[r].there) {
            return refuse(NOTHING);
        }
        rows[r].there = false;
        return 1;
    }

    public int copy(int r, int i, int to, int j, int n) {
        if (!isRow(r) || !isRow(to)) {
            return BAD;
        }
        if (n < 0) {
            return refuse(SIZE);
        }
        if (!rows[r].there || !rows[to].there) {
            return refuse(NOTHING);
        }
        if (!rows[r].hasRun(i, n) || !rows[to].hasRun(j, n)) {
            return refuse(BEYOND);
        }
        System.arraycopy(rows[r].places, i, rows[to].places, j, n);
        return 1;
    }

    public int mean(int r) {
        if (!isRow(r)) {
            return BAD;
        }
        if (!rows[r].there) {
            return refuse(NOTHING);
        }
        if (rows[r].size < 1) {
            return refuse(NOUGHT);
        }
        return tell((int) (rows[r].sum() / rows[r].size), 1);
    }

    public int text(int t, int n) {
        if (!isText(t) || n > MOST_BYTES) {
            return BAD;
        }
        if (n < 0) {
            return refuse(SIZE);
        }
        texts[t].renew(n);
        return n;
    }

    public int put(int t, int i, int v) {
        if (!isText(t)) {
            return BAD;
        }
        if (!texts[t].there) {
            return refuse(NOTHING);
        }
        if (!texts[t].has(i)) {
            return refuse(BEYOND);
        }
        int was = texts[t].bytes[i];
        texts[t].bytes[i] = (byte) v;
        return was + 1000;
    }

    public int fault(int t, boolean sea) {
        if (!isText(t)) {
            return BAD;
        }
        if (!texts[t].there) {
            return refuse(NOTHING);
        }
        return sea ? reader.readSea(texts[t]) : reader.readHarbour(texts[t]);
    }

    public int harbour(int k, int t) {
        if (!isHarbour(k) || !isText(t)) {
            return BAD;
        }
        if (!texts[t].there) {
            return refuse(NOTHING);
        }
        if (reader.readHarbour(texts[t]) != NONE) {
            return STATE;
        }
        harbours[k].take(reader.basin);
        return harbours[k].cells;
    }

    public int sea(int k, int t) {
        if (!isSea(k) || !isText(t)) {
            return BAD;
        }
        if (!texts[t].there) {
            return refuse(NOTHING);
        }
        if (reader.readSea(texts[t]) != NONE) {
            return STATE;
        }
        seas[k].take(reader.swell);
        return seas[k].sets;
    }

    public int about(int k, int what) {
        if (!isHarbour(k) || !within(what, 0, 4 + MOST_CELLS)) {
            return BAD;
        }
        if (!harbours[k].there) {
            return refuse(NOTHING);
        }
        if (what >= 5 && !harbours[k].hasCell(what - 5)) {
            return refuse(BEYOND);
        }
        return tell(harbours[k].fact(what), 1);
    }

    public int set(int k, int i) {
        if (!isSea(k)) {
            return BAD;
        }
        if (!seas[k].there) {
            return refuse(NOTHING);
        }
        if (!seas[k].hasSet(i)) {
            return refuse(BEYOND);
        }
        return tell(seas[k].pushes[i], seas[k].beats[i]);
    }

    public int ship(int s, int cell, int weight, int tight, int slack, int strength) {
        if (!isShip(s) || !isCell(cell) || !within(weight, 1, 9) || !within(tight, 1, MOST_TIGHTNESS)
                || !within(slack, 0, 30) || !within(strength, 1, 9999)) {
            return BAD;
        }
        ships[s].build(cell, weight, tight, slack, strength);
        return 1;
    }

    public int leave(int s) {
        if (!isShip(s)) {
            return BAD;
        }
        if (!ships[s].there) {
            return STATE;
        }
        ships[s].there = false;
        return 1;
    }

    // ---- 2 nights

    public int night(int harbour, int sea) {
        if (!isHarbour(harbour) || !isSea(sea)) {
            return BAD;
        }
        if (!harbours[harbour].there || !seas[sea].there) {
            return refuse(NOTHING);
        }
        for (int i = 0; i < SHIPS; i++) {
            if (ships[i].there && !harbours[harbour].hasCell(ships[i].cell)) {
                return STATE;
            }
        }
        night.clear();
        for (int i = 0; i < SHIPS; i++) {
            night.moor(ships[i], ships[i].cell, ships[i].tightness);
        }
        night.begin(harbours[harbour], seas[sea]);
        return harbours[harbour].cells;
    }

    public int go(int n) {
        if (!within(n, 0, MOST_SECONDS)) {
            return BAD;
        }
        if (!night.there) {
            return STATE;
        }
        if (night.water.second + n > LAST_SECOND) {
            return SPENT;
        }
        night.pass(n);
        return night.water.second;
    }

    public int cell(int k, int what) {
        if (!isCell(k) || !within(what, 0, 2)) {
            return BAD;
        }
        if (!night.there) {
            return STATE;
        }
        if (!night.water.basin.hasCell(k)) {
            return refuse(BEYOND);
        }
        return tell(night.water.fact(k, what), 1);
    }

    public int rides(int s, int what) {
        if (!isShip(s) || !within(what, 0, 3)) {
            return BAD;
        }
        if (!night.there || !night.has(s)) {
            return STATE;
        }
        return tell(night.boats[s].ridden(what), 1);
    }

    public int gauge(int cell, int n, int r) {
        if (!isCell(cell) || !within(n, 0, MOST_PLACES) || !isRow(r)) {
            return BAD;
        }
        if (!night.there) {
            return STATE;
        }
        if (!night.water.basin.hasCell(cell)) {
            return refuse(BEYOND);
        }
        if (night.water.second + n > LAST_SECOND) {
            return SPENT;
        }
        rows[r].renew(n);
        for (int i = 0; i < n; i++) {
            night.pass(1);
            rows[r].places[i] = night.water.heights[cell];
        }
        return night.water.second;
    }

    public int keep(int k) {
        if (!within(k, 0, KEPT - 1)) {
            return BAD;
        }
        if (!night.there) {
            return STATE;
        }
        kept[k].take(night);
        return night.water.second;
    }

    public int on(int k) {
        if (!within(k, 0, KEPT - 1)) {
            return BAD;
        }
        if (!kept[k].there) {
            return refuse(NOTHING);
        }
        night.take(kept[k]);
        return night.water.second;
    }

    public int water() {
        if (!night.there) {
            return STATE;
        }
        return tell(night.water.whole(), 1);
    }

    // ---- 3 beats

    public int beat(int r) {
        if (!isRow(r)) {
            return BAD;
        }
        if (!rows[r].there) {
            return refuse(NOTHING);
        }
        crossings.look(rows[r].places, rows[r].size);
        return tellBeat();
    }

    public int span(int r) {
        if (!isRow(r)) {
            return BAD;
        }
        if (!rows[r].there) {
            return refuse(NOTHING);
        }
        crossings.look(rows[r].places, rows[r].size);
        if (!crossings.haveBeat()) {
            return refuse(NOUGHT);
        }
        return tell(crossings.longest, crossings.shortest);
    }

    public int ring(int harbour, int cell) {
        if (!isHarbour(harbour) || !isCell(cell)) {
            return BAD;
        }
        if (!harbours[harbour].there) {
            return refuse(NOTHING);
        }
        if (!harbours[harbour].hasCell(cell)) {
            return refuse(BEYOND);
        }
        hearRing(harbours[harbour], cell);
        return tellBeat();
    }

    public int roll(int s) {
        if (!isShip(s)) {
            return BAD;
        }
        if (!ships[s].there) {
            return STATE;
        }
        hearRoll(ships[s]);
        return tellBeat();
    }

    public int kind(int which, int a, int b, int c) {
        return kindOf(which, a, b, c);
    }

    public int mark(int which, int a, int b, int c, int kind) {
        if (!within(kind, BEAT_OF_BASIN, BEAT_DYING)) {
            return BAD;
        }
        int is = kindOf(which, a, b, c);
        if (is < 0) {
            return is;
        }
        boolean alike = is == kind || is == BEAT_MET && kind == BEAT_OF_SET || is == BEAT_DYING && kind == BEAT_OF_BASIN;
        if (!alike) {
            return refuse(UNLIKE);
        }
        switch (kind) {
            case BEAT_OF_SET:
                return beatOfSet(a, b);
            case BEAT_MET:
                return Math.abs(beatOfSet(a, b) - crossings.cutBeat());
            case BEAT_DYING:
                return crossings.lastLoud();
            default:
                return crossings.cutBeat();
        }
    }

    private int tellBeat() {
        if (!crossings.haveBeat()) {
            return refuse(NOUGHT);
        }
        fraction.tell(crossings.last - crossings.first, crossings.many - 1);
        return crossings.many;
    }

    private void hearRing(Basin basin, int cell) {
        Waters water = trial.water;
        water.begin(basin, calm);
        water.lift(cell, 1000);
        for (int i = 0; i < RUNG_SECONDS; i++) {
            water.pass();
            crossings.heard[i] = water.fact(cell, 0);
        }
        crossings.look(crossings.heard, RUNG_SECONDS);
    }

    private void hearRoll(Boat ship) {
        rolling.take(ship);
        rolling.rest();
        rolling.place = rolling.slack + 100;
        for (int i = 0; i < RUNG_SECONDS; i++) {
            rolling.ride(0, i);
            crossings.heard[i] = rolling.place;
        }
        crossings.look(crossings.heard, RUNG_SECONDS);
    }

    private int kindOf(int which, int a, int b, int c) {
        switch (which) {
            case 0:
                return kindOfRing(a, b);
            case 1:
                return kindOfSet(a, b, c);
            case 2:
                return kindOfRoll(a);
            default:
                return BAD;
        }
    }

    private int kindOfRing(int harbour, int cell) {
        if (!isHarbour(harbour) || !isCell(cell)) {
            return BAD;
        }
        if (!harbours[harbour].there) {
            return refuse(NOTHING);
        }
        if (!harbours[harbour].hasCell(cell)) {
            return refuse(BEYOND);
        }
        hearRing(harbours[harbour], cell);
        if (!crossings.haveBeat()) {
            return refuse(NOUGHT);
        }
        return crossings.lastLoud() <= RUNG_SECONDS - DYING_SECONDS ? BEAT_DYING : BEAT_OF_BASIN;
    }

    private int kindOfSet(int sea, int i, int harbour) {
        if (!isSea(sea) || !isHarbour(harbour)) {
            return BAD;
        }
        if (!seas[sea].there || !harbours[harbour].there) {
            return refuse(NOTHING);
        }
        if (!seas[sea].hasSet(i)) {
            return refuse(BEYOND);
        }
        hearRing(harbours[harbour], harbours[harbour].mouth);
        boolean met = crossings.haveBeat() && Math.abs(beatOfSet(sea, i) - crossings.cutBeat()) <= 2;
        return met ? BEAT_MET : BEAT_OF_SET;
    }

    private int beatOfSet(int sea, int i) {
        return isSea(sea) && seas[sea].hasSet(i) ? seas[sea].beats[i] : 0;
    }

    private int kindOfRoll(int s) {
        if (!isShip(s)) {
            return BAD;
        }
        if (!ships[s].there) {
            return STATE;
        }
        hearRoll(ships[s]);
        return crossings.haveBeat() ? BEAT_OF_SHIP : refuse(NOUGHT);
    }

    // ---- 4 what wakes it, ships

    public int quiet(int harbour, int sea) {
        if (!isHarbour(harbour) || !isSea(sea)) {
            return BAD;
        }
        if (!harbours[harbour].there || !seas[sea].there) {
            return refuse(NOTHING);
        }
        int most = quietOf(harbours[harbour], seas[sea]);
        return tell(trial.water.wildest(), most);
    }

    public int still(int harbour, int sea) {
        if (!isHarbour(harbour) || !isSea(sea)) {
            return BAD;
        }
        if (!harbours[harbour].there || !seas[sea].there) {
            return refuse(NOTHING);
        }
        trial.clear();
        trial.wake(harbours[harbour], seas[sea]);
        int stillest = trial.water.stillest();
        return tell(trial.water.range(stillest), stillest);
    }

    public int wakes(int harbour) {
        if (!isHarbour(harbour)) {
            return BAD;
        }
        if (!harbours[harbour].there || !anySea()) {
            return refuse(NOTHING);
        }
        int best = 0;
        int most = -1;
        for (int i = 0; i < SEAS; i++) {
            if (seas[i].there) {
                int its = quietOf(harbours[harbour], seas[i]);
                if (its > most) {
                    most = its;
                    best = i;
                }
            }
        }
        return tell(most, best);
    }

    public int pull(int s, int harbour, int sea) {
        int refused = refusedShip(s, harbour, sea);
        if (refused != 0) {
            return refused;
        }
        if (!harbours[harbour].hasCell(ships[s].cell)) {
            return refuse(BEYOND);
        }
        wakeShip(ships[s], harbours[harbour], seas[sea]);
        return tell(trial.partedOf(0), trial.pullOf(0));
    }

    public int tight(int s, int harbour, int sea) {
        int refused = refusedShip(s, harbour, sea);
        if (refused != 0) {
            return refused;
        }
        if (!harbours[harbour].hasCell(ships[s].cell)) {
            return refuse(BEYOND);
        }
        trial.clear();
        for (int tightness = 1; tightness <= MOST_TIGHTNESS; tightness++) {
            trial.moor(ships[s], ships[s].cell, tightness);
        }
        trial.wake(harbours[harbour], seas[sea]);
        int best = trial.leastPulled();
        return tell(trial.pullOf(best), best + 1);
    }

    public int where(int s, int harbour, int sea) {
        int refused = refusedShip(s, harbour, sea);
        if (refused != 0) {
            return refused;
        }
        trial.clear();
        moorEverywhere(ships[s], harbours[harbour].cells);
        trial.wake(harbours[harbour], seas[sea]);
        int best = trial.leastPulled();
        return tell(trial.pullOf(best), best);
    }

    public int tonight(int harbour, int sea, int r) {
        if (!isHarbour(harbour) || !isSea(sea) || !isRow(r)) {
            return BAD;
        }
        if (!harbours[harbour].there || !seas[sea].there) {
            return refuse(NOTHING);
        }
        int afloat = count(2);
        if (afloat < 1) {
            return STATE;
        }
        int cells = harbours[harbour].cells;
        trial.clear();
        for (int i = 0; i < SHIPS; i++) {
            if (ships[i].there) {
                moorEverywhere(ships[i], cells);
            }
        }
        trial.wake(harbours[harbour], seas[sea]);
        spreadBerths(bestBerths(afloat, cells), afloat, cells);
        rows[r].renew(afloat);
        for (int i = 0; i < afloat && i < SHIPS; i++) {
            rows[r].places[i] = berths[i];
        }
        return tell(pullsOf(afloat, cells), partingOf(afloat, cells));
    }

    public int odds(int s, int harbour) {
        if (!isShip(s) || !isHarbour(harbour)) {
            return BAD;
        }
        if (!ships[s].there) {
            return STATE;
        }
        if (!harbours[harbour].there || !anySea()) {
            return refuse(NOTHING);
        }
        if (!harbours[harbour].hasCell(ships[s].cell)) {
            return refuse(BEYOND);
        }
        int parting = 0;
        for (int i = 0; i < SEAS; i++) {
            if (seas[i].there) {
                wakeShip(ships[s], harbours[harbour], seas[i]);
                parting += trial.partedOf(0) == NONE ? 0 : 1;
            }
        }
        fraction.tell(parting, count(1));
        return parting;
    }

    private int refusedShip(int s, int harbour, int sea) {
        if (!isShip(s) || !isHarbour(harbour) || !isSea(sea)) {
            return BAD;
        }
        if (!ships[s].there) {
            return STATE;
        }
        if (!harbours[harbour].there || !seas[sea].there) {
            return refuse(NOTHING);
        }
        return 0;
    }

    private void wakeShip(Boat ship, Basin basin, Swell swell) {
        trial.clear();
        trial.moor(ship, ship.cell, ship.tightness);
        trial.wake(basin, swell);
    }

    private int quietOf(Basin basin, Swell swell) {
        trial.clear();
        trial.wake(basin, swell);
        return trial.water.range(trial.water.wildest());
    }

    // Ships do not stir the water, nor one another: one waking tries a ship at all cells at once.
    private void moorEverywhere(Boat ship, int cells) {
        for (int i = 0; i < cells && i < MOST_CELLS; i++) {
            trial.moor(ship, i, ship.tightness);
        }
    }

    private int bestBerths(int afloat, int cells) {
        int all = 1;
        for (int i = 0; i < afloat; i++) {
            all *= cells;
        }
        int best = -1;
        int fewest = 0;
        int least = 0;
        for (int code = 0; code < all; code++) {
            spreadBerths(code, afloat, cells);
            if (apart(afloat)) {
                int parting = partingOf(afloat, cells);
                int pulls = pullsOf(afloat, cells);
                if (best < 0 || parting < fewest || parting == fewest && pulls < least) {
                    best = code;
                    fewest = parting;
                    least = pulls;
                }
            }
        }
        return Math.max(0, best);
    }

    // A code's figures by how many cells there are: the first ship's is the highest, so that codes count in her order.
    private void spreadBerths(int code, int afloat, int cells) {
        int by = Math.max(1, cells);
        int rest = code;
        for (int i = Math.min(afloat, SHIPS) - 1; i >= 0; i--) {
            berths[i] = rest % by;
            rest /= by;
        }
    }

    private boolean apart(int afloat) {
        for (int i = 1; i < afloat && i < SHIPS; i++) {
            for (int j = 0; j < i; j++) {
                if (berths[i] == berths[j]) {
                    return false;
                }
            }
        }
        return true;
    }

    // Of the ships that are there the first one was tried by the trial's first boats, a cell each, and so on.
    private int partingOf(int afloat, int cells) {
        int parting = 0;
        for (int i = 0; i < afloat && i < SHIPS; i++) {
            parting += trial.partedOf(i * cells + berths[i]) == NONE ? 0 : 1;
        }
        return parting;
    }

    private int pullsOf(int afloat, int cells) {
        int pulls = 0;
        for (int i = 0; i < afloat && i < SHIPS; i++) {
            pulls += trial.pullOf(i * cells + berths[i]);
        }
        return pulls;
    }

    // ---- 5 works, what it was

    public int work(int kind, int k, int v, int cost) {
        if (!within(kind, 0, WORK_KINDS - 1) || !isCell(k) || !within(v, 0, 9) || !within(cost, 0, 99)) {
            return BAD;
        }
        if (workCount >= MOST_WORKS) {
            return FULL;
        }
        works[workCount].plan(kind, k, v, cost);
        workCount++;
        return workCount - 1;
    }

    public int back(int n) {
        if (!within(n, 0, workCount)) {
            return BAD;
        }
        int gone = workCount - n;
        workCount = n;
        return gone;
    }

    public int does(int harbour, int sea, int set) {
        if (!isHarbour(harbour) || !isSea(sea) || !within(set, 0, allWorks())) {
            return BAD;
        }
        if (!harbours[harbour].there || !seas[sea].there) {
            return refuse(NOTHING);
        }
        return tell(costOf(set), quietWith(harbours[harbour], seas[sea], set));
    }

    public int worse(int harbour, int sea) {
        if (!isHarbour(harbour) || !isSea(sea)) {
            return BAD;
        }
        if (!harbours[harbour].there || !seas[sea].there) {
            return refuse(NOTHING);
        }
        int without = quietOf(harbours[harbour], seas[sea]);
        int greater = 0;
        int less = 0;
        for (int i = 0; i < workCount; i++) {
            int with = quietWith(harbours[harbour], seas[sea], 1 << i);
            greater |= with > without ? 1 << i : 0;
            less |= with < without ? 1 << i : 0;
        }
        return tell(less, greater);
    }

    public int least(int harbour, int sea, int c) {
        if (!isHarbour(harbour) || !isSea(sea) || !within(c, 0, 500)) {
            return BAD;
        }
        if (!harbours[harbour].there || !seas[sea].there) {
            return refuse(NOTHING);
        }
        int best = 0;
        int leastQuiet = quietOf(harbours[harbour], seas[sea]);
        int cheapest = 0;
        for (int set = 1; set <= allWorks(); set++) {
            int cost = costOf(set);
            if (cost <= c) {
                int its = quietWith(harbours[harbour], seas[sea], set);
                if (its < leastQuiet || its == leastQuiet && cost < cheapest) {
                    best = set;
                    leastQuiet = its;
                    cheapest = cost;
                }
            }
        }
        return tell(leastQuiet, best);
    }

    public int since(int harbour, int sea, int cell, int k, int r) {
        if (!isHarbour(harbour) || !isSea(sea) || !isCell(cell) || !isCell(k) || !isRow(r)) {
            return BAD;
        }
        if (!harbours[harbour].there || !seas[sea].there || !rows[r].there) {
            return refuse(NOTHING);
        }
        if (rows[r].size < 1) {
            return refuse(SIZE);
        }
        if (!harbours[harbour].hasCell(cell) || !harbours[harbour].hasWallPlace(k)) {
            return refuse(BEYOND);
        }
        if (!rows[r].allWithin(-MOST_FLOAT, MOST_FLOAT)) {
            return refuse(UNLIKE);
        }
        int asItIs = offOf(harbours[harbour], seas[sea], cell, rows[r]);
        changed.take(harbours[harbour]);
        changed.raiseWall(k);
        int walled = offOf(changed, seas[sea], cell, rows[r]);
        return tell(Math.abs(asItIs - walled), asItIs > walled ? 1 : 0);
    }

    public int which(int harbour, int cell, int r) {
        if (!isHarbour(harbour) || !isCell(cell) || !isRow(r)) {
            return BAD;
        }
        if (!harbours[harbour].there || !rows[r].there || !anySea()) {
            return refuse(NOTHING);
        }
        if (rows[r].size < 1) {
            return refuse(SIZE);
        }
        if (!harbours[harbour].hasCell(cell)) {
            return refuse(BEYOND);
        }
        if (!rows[r].allWithin(-MOST_FLOAT, MOST_FLOAT)) {
            return refuse(UNLIKE);
        }
        int best = -1;
        int nearest = 0;
        for (int i = 0; i < SEAS; i++) {
            if (seas[i].there) {
                int off = offOf(harbours[harbour], seas[i], cell, rows[r]);
                if (best < 0 || off < nearest) {
                    best = i;
                    nearest = off;
                }
            }
        }
        return tell(nearest, best);
    }

    private int allWorks() {
        return (1 << workCount) - 1;
    }

    private int costOf(int set) {
        int cost = 0;
        for (int i = 0; i < workCount; i++) {
            cost += (set >> i & 1) == 1 ? works[i].cost : 0;
        }
        return cost;
    }

    private int quietWith(Basin basin, Swell swell, int set) {
        changed.take(basin);
        for (int i = 0; i < workCount; i++) {
            if ((set >> i & 1) == 1) {
                works[i].change(changed);
            }
        }
        return quietOf(changed, swell);
    }

    private int offOf(Basin basin, Swell swell, int cell, Numbers row) {
        Waters water = trial.water;
        water.begin(basin, swell);
        int off = 0;
        for (int i = 0; i < row.size; i++) {
            water.pass();
            off += Math.abs(row.places[i] - water.heights[cell]);
        }
        return off;
    }

    // ---- 6 what is told

    public int asked() {
        return told;
    }

    public long upper() {
        return fraction.top;
    }

    public long lower() {
        return fraction.bottom;
    }

    public int count(int what) {
        switch (what) {
            case 0:
                return harboursThere();
            case 1:
                return seasThere();
            case 2:
                return shipsThere();
            case 3:
                return workCount;
            case 4:
                return night.there ? night.water.second : 0;
            case 5:
                return keptThere();
            case 6:
                return rowsThere();
            case 7:
                return textsThere();
            default:
                return BAD;
        }
    }

    public int finding() {
        return lastFinding;
    }

    public int findings(int f) {
        return within(f, NOTHING, SIZE) ? found[f] : BAD;
    }

    public long digest() {
        long h = 17;
        for (int i = 0; i < COUNTS; i++) {
            h = mix(h, count(i));
        }
        for (int i = 0; i < HARBOURS; i++) {
            h = harbours[i].mixInto(h);
        }
        for (int i = 0; i < SEAS; i++) {
            h = seas[i].mixInto(h);
        }
        for (int i = 0; i < SHIPS; i++) {
            h = ships[i].mixInto(h);
        }
        for (int i = 0; i < workCount; i++) {
            h = works[i].mixInto(h);
        }
        h = night.mixInto(h);
        for (int i = 0; i < ROWS; i++) {
            h = rows[i].mixInto(h);
        }
        for (int i = 0; i < TEXTS; i++) {
            h = texts[i].mixInto(h);
        }
        return h;
    }

    private static long mix(long h, long v) {
        return 31 * h + v;
    }

    private int harboursThere() {
        int there = 0;
        for (int i = 0; i < HARBOURS; i++) {
            there += harbours[i].there ? 1 : 0;
        }
        return there;
    }

    private int seasThere() {
        int there = 0;
        for (int i = 0; i < SEAS; i++) {
            there += seas[i].there ? 1 : 0;
        }
        return there;
    }

    private int shipsThere() {
        int there = 0;
        for (int i = 0; i < SHIPS; i++) {
            there += ships[i].there ? 1 : 0;
        }
        return there;
    }

    private int keptThere() {
        int there = 0;
        for (int i = 0; i < KEPT; i++) {
            there += kept[i].there ? 1 : 0;
        }
        return there;
    }

    private int rowsThere() {
        int there = 0;
        for (int i = 0; i < ROWS; i++) {
            there += rows[i].there ? 1 : 0;
        }
        return there;
    }

    private int textsThere() {
        int there = 0;
        for (int i = 0; i < TEXTS; i++) {
            there += texts[i].there ? 1 : 0;
        }
        return there;
    }

    /** A ROW. */
    private static final class Numbers {
        final int[] places = new int[MOST_PLACES];
        int size = 0;
        boolean there = false;

        void renew(int n) {
            size = Math.max(0, Math.min(n, MOST_PLACES));
            there = true;
            for (int i = 0; i < size; i++) {
                places[i] = 0;
            }
        }

        boolean has(int i) {
            return i >= 0 && i < size;
        }

        // size - n cannot wrap around, as from + n could.
        boolean hasRun(int from, int n) {
            return from >= 0 && n >= 0 && from <= size - n;
        }

        boolean allWithin(int least, int most) {
            for (int i = 0; i < size; i++) {
                if (!within(places[i], least, most)) {
                    return false;
                }
            }
            return true;
        }

        long sum() {
            long sum = 0;
            for (int i = 0; i < size; i++) {
                sum += places[i];
            }
            return sum;
        }

        long mixInto(long h) {
            if (!there) {
                return mix(h, -1);
            }
            long mixed = mix(h, size);
            for (int i = 0; i < size; i++) {
                mixed = mix(mixed, places[i]);
            }
            return mixed;
        }
    }

    /** A TEXT. */
    private static final class Letters {
        final byte[] bytes = new byte[MOST_BYTES];
        int size = 0;
        boolean there = false;

        void renew(int n) {
            size = Math.max(0, Math.min(n, MOST_BYTES));
            there = true;
            for (int i = 0; i < size; i++) {
                bytes[i] = ' ';
            }
        }

        boolean has(int i) {
            return i >= 0 && i < size;
        }

        long mixInto(long h) {
            if (!there) {
                return mix(h, -1);
            }
            long mixed = mix(h, size);
            for (int i = 0; i < size; i++) {
                mixed = mix(mixed, bytes[i]);
            }
            return mixed;
        }
    }

    /** A HARBOUR. */
    private static final class Basin {
        final int[] depths = new int[MOST_CELLS];
        boolean there = false;
        int cells = 0;
        int mouth = 0;
        int width = 0;
        int rub = 0;
        int walls = 0;

        void renew() {
            there = true;
            cells = 0;
            mouth = 0;
            width = 4;
            rub = 1;
            walls = 0;
            for (int i = 0; i < MOST_CELLS; i++) {
                depths[i] = 4;
            }
        }

        void take(Basin other) {
            there = other.there;
            cells = other.cells;
            mouth = other.mouth;
            width = other.width;
            rub = other.rub;
            walls = other.walls;
            System.arraycopy(other.depths, 0, depths, 0, MOST_CELLS);
        }

        boolean hasCell(int k) {
            return k >= 0 && k < cells && k < MOST_CELLS;
        }

        boolean hasWallPlace(int k) {
            return k >= 0 && k < cells - 1 && k < MOST_CELLS - 1;
        }

        // Where there is a wall, or no next cell, the opening of 0 keeps the flow at 0.
        int openingBehind(int k) {
            if (!hasWallPlace(k) || (walls >> k & 1) == 1) {
                return 0;
            }
            return Math.min(depths[k], depths[k + 1]);
        }

        void raiseWall(int k) {
            if (hasWallPlace(k)) {
                walls |= 1 << k;
            }
        }

        void breakWall(int k) {
            if (hasWallPlace(k)) {
                walls &= ~(1 << k);
            }
        }

        void widen(int v) {
            width = Math.max(0, Math.min(MOST_WIDTH, width + v));
        }

        void deepen(int k, int v) {
            if (hasCell(k)) {
                depths[k] = Math.max(1, Math.min(MOST_DEPTH, depths[k] + v));
            }
        }

        int fact(int what) {
            switch (what) {
                case 0:
                    return cells;
                case 1:
                    return mouth;
                case 2:
                    return width;
                case 3:
                    return rub;
                case 4:
                    return walls;
                default:
                    return hasCell(what - 5) ? depths[what - 5] : 0;
            }
        }

        long mixInto(long h) {
            if (!there) {
                return mix(h, -1);
            }
            long mixed = h;
            for (int i = 0; i < 5 + cells; i++) {
                mixed = mix(mixed, fact(i));
            }
            return mixed;
        }
    }

    /** A SEA. */
    private static final class Swell {
        final int[] beats = new int[MOST_SETS];
        final int[] pushes = new int[MOST_SETS];
        boolean there = false;
        int sets = 0;

        void renew() {
            there = true;
            sets = 0;
        }

        void take(Swell other) {
            there = other.there;
            sets = other.sets;
            System.arraycopy(other.beats, 0, beats, 0, MOST_SETS);
            System.arraycopy(other.pushes, 0, pushes, 0, MOST_SETS);
        }

        boolean hasSet(int i) {
            return i >= 0 && i < sets && i < MOST_SETS;
        }

        void add(int beat, int push) {
            if (sets >= 0 && sets < MOST_SETS) {
                beats[sets] = beat;
                pushes[sets] = push;
                sets++;
            }
        }

        int pushAt(int second) {
            int sum = 0;
            for (int i = 0; i < sets && i < MOST_SETS; i++) {
                if (beats[i] > 0) {
                    sum += second % beats[i] < beats[i] / 2 ? pushes[i] : -pushes[i];
                }
            }
            return sum;
        }

        long mixInto(long h) {
            if (!there) {
                return mix(h, -1);
            }
            long mixed = h;
            for (int i = 0; i < sets && i < MOST_SETS; i++) {
                mixed = mix(mix(mixed, beats[i]), pushes[i]);
            }
            return mixed;
        }
    }

    /** A SHIP, and how she rides in a NIGHT. */
    private static final class Boat {
        boolean there = false;
        int cell = 0;
        int weight = 1;
        int tightness = 1;
        int slack = 0;
        int strength = 1;
        int place = 0;
        int speed = 0;
        int pull = 0;
        int parted = NONE;

        void build(int itsCell, int itsWeight, int itsTightness, int itsSlack, int itsStrength) {
            there = true;
            cell = itsCell;
            weight = itsWeight;
            tightness = itsTightness;
            slack = itsSlack;
            strength = itsStrength;
        }

        void take(Boat other) {
            there = other.there;
            cell = other.cell;
            weight = other.weight;
            tightness = other.tightness;
            slack = other.slack;
            strength = other.strength;
            place = other.place;
            speed = other.speed;
            pull = other.pull;
            parted = other.parted;
        }

        void rest() {
            place = 0;
            speed = 0;
            pull = 0;
            parted = NONE;
        }

        int strain() {
            int beyond = (place < 0 ? -place : place) - slack;
            return beyond > 0 ? tightness * beyond : 0;
        }

        void ride(int flows, int second) {
            int drive = place > 0 ? flows - strain() : flows + strain();
            speed += drive / Math.max(1, 4 * weight);
            speed -= speed / 16;
            place += speed;
            int now = strain();
            pull = Math.max(pull, now);
            if (parted == NONE && now > strength) {
                parted = second;
            }
        }

        int ridden(int what) {
            switch (what) {
                case 0:
                    return place;
                case 1:
                    return speed;
                case 2:
                    return pull;
                default:
                    return parted;
            }
        }

        long mixInto(long h) {
            if (!there) {
                return mix(h, -1);
            }
            return mix(mix(mix(mix(mix(h, cell), weight), tightness), slack), strength);
        }

        long mixRideInto(long h) {
            if (!there) {
                return h;
            }
            return mix(mix(mix(mix(h, place), speed), pull), parted);
        }
    }

    /** A WORK. */
    private static final class Work {
        int sort = 0;
        int k = 0;
        int v = 0;
        int cost = 0;

        void plan(int itsSort, int itsK, int itsV, int itsCost) {
            sort = itsSort;
            k = itsK;
            v = itsV;
            cost = itsCost;
        }

        void change(Basin basin) {
            switch (sort) {
                case 0:
                    basin.raiseWall(k);
                    break;
                case 1:
                    basin.breakWall(k);
                    break;
                case 2:
                    basin.widen(v);
                    break;
                case 3:
                    basin.widen(-v);
                    break;
                case 4:
                    basin.deepen(k, v);
                    break;
                default:
                    basin.deepen(k, -v);
                    break;
            }
        }

        long mixInto(long h) {
            return mix(mix(mix(mix(h, sort), k), v), cost);
        }
    }

    /** The water of a HARBOUR under a SEA, both as they were when it began. */
    private static final class Waters {
        final Basin basin = new Basin();
        final Swell swell = new Swell();
        final int[] heights = new int[MOST_CELLS];
        final int[] flows = new int[MOST_CELLS];
        final int[] openings = new int[MOST_CELLS];
        final int[] highest = new int[MOST_CELLS];
        final int[] lowest = new int[MOST_CELLS];
        int second = 0;

        void begin(Basin itsBasin, Swell itsSwell) {
            basin.take(itsBasin);
            swell.take(itsSwell);
            second = 0;
            for (int i = 0; i < MOST_CELLS; i++) {
                heights[i] = 0;
                flows[i] = 0;
                highest[i] = 0;
                lowest[i] = 0;
                openings[i] = basin.openingBehind(i);
            }
        }

        void lift(int k, int height) {
            if (basin.hasCell(k)) {
                heights[k] = height;
            }
        }

        void take(Waters other) {
            basin.take(other.basin);
            swell.take(other.swell);
            second = other.second;
            System.arraycopy(other.heights, 0, heights, 0, MOST_CELLS);
            System.arraycopy(other.flows, 0, flows, 0, MOST_CELLS);
            System.arraycopy(other.openings, 0, openings, 0, MOST_CELLS);
            System.arraycopy(other.highest, 0, highest, 0, MOST_CELLS);
            System.arraycopy(other.lowest, 0, lowest, 0, MOST_CELLS);
        }

        void pass() {
            stream();
            rise(swell.pushAt(second));
            second++;
        }

        private void stream() {
            for (int i = 0; i < basin.cells - 1 && i < MOST_CELLS - 1; i++) {
                int flow = flows[i] + (heights[i] - heights[i + 1]) * openings[i] / 16;
                flows[i] = flow - flow * basin.rub / 64;
            }
        }

        private void rise(int push) {
            int come = 0;
            for (int i = 0; i < basin.cells && i < MOST_CELLS; i++) {
                int height = heights[i] + come - flows[i];
                if (i == basin.mouth) {
                    height += (push - height) * basin.width / 16;
                }
                heights[i] = height;
                if (second == 0 || height > highest[i]) {
                    highest[i] = height;
                }
                if (second == 0 || height < lowest[i]) {
                    lowest[i] = height;
                }
                come = flows[i];
            }
        }

        // Behind the last cell flows nothing: flows[cells - 1] stays 0.
        int flowsAt(int k) {
            if (!basin.hasCell(k)) {
                return 0;
            }
            return k > 0 ? flows[k - 1] + flows[k] : flows[k];
        }

        int range(int k) {
            return basin.hasCell(k) ? highest[k] - lowest[k] : 0;
        }

        int wildest() {
            int best = 0;
            for (int i = 1; i < basin.cells; i++) {
                best = range(i) > range(best) ? i : best;
            }
            return best;
        }

        int stillest() {
            int best = 0;
            for (int i = 1; i < basin.cells; i++) {
                best = range(i) < range(best) ? i : best;
            }
            return best;
        }

        int whole() {
            int sum = 0;
            for (int i = 0; i < basin.cells && i < MOST_CELLS; i++) {
                sum += heights[i];
            }
            return sum;
        }

        int fact(int k, int what) {
            if (!basin.hasCell(k)) {
                return 0;
            }
            switch (what) {
                case 0:
                    return heights[k];
                case 1:
                    return flows[k];
                default:
                    return range(k);
            }
        }
    }

    /** A NIGHT: water, and boats on it in the order in which they were moored. */
    private static final class Night {
        final Waters water = new Waters();
        final Boat[] boats;
        int moored = 0;
        boolean there = false;

        Night(int room) {
            boats = new Boat[Math.max(1, room)];
            for (int i = 0; i < boats.length; i++) {
                boats[i] = new Boat();
            }
        }

        void clear() {
            moored = 0;
        }

        // A missing ship keeps her place, so that those behind her stand at their own numbers.
        void moor(Boat ship, int cell, int tightness) {
            if (moored >= 0 && moored < boats.length) {
                boats[moored].take(ship);
                boats[moored].cell = cell;
                boats[moored].tightness = tightness;
                boats[moored].rest();
                moored++;
            }
        }

        boolean has(int i) {
            return i >= 0 && i < moored && i < boats.length && boats[i].there;
        }

        void begin(Basin basin, Swell swell) {
            there = true;
            water.begin(basin, swell);
        }

        void pass(int seconds) {
            for (int n = 0; n < seconds; n++) {
                int second = water.second;
                water.pass();
                for (int i = 0; i < moored && i < boats.length; i++) {
                    if (boats[i].there) {
                        boats[i].ride(water.flowsAt(boats[i].cell), second);
                    }
                }
            }
        }

        void wake(Basin basin, Swell swell) {
            begin(basin, swell);
            pass(WOKEN_SECONDS);
        }

        int pullOf(int i) {
            return has(i) ? boats[i].pull : 0;
        }

        int partedOf(int i) {
            return has(i) ? boats[i].parted : NONE;
        }

        int leastPulled() {
            int best = 0;
            for (int i = 1; i < moored; i++) {
                best = pullOf(i) < pullOf(best) ? i : best;
            }
            return best;
        }

        void take(Night other) {
            there = other.there;
            water.take(other.water);
            moored = Math.min(other.moored, boats.length);
            for (int i = 0; i < moored && i < other.boats.length; i++) {
                boats[i].take(other.boats[i]);
            }
        }

        long mixInto(long h) {
            if (!there) {
                return mix(h, -1);
            }
            long mixed = h;
            for (int i = 0; i < water.basin.cells; i++) {
                mixed = mix(mix(mixed, water.fact(i, 0)), water.fact(i, 1));
            }
            for (int i = 0; i < moored && i < boats.length; i++) {
                mixed = boats[i].mixRideInto(mixed);
            }
            return mixed;
        }
    }

    /** The CROSSINGS of a row of numbers: of a ROW, or of a RING or a ROLL that was heard. */
    private static final class Crossings {
        final int[] heard = new int[RUNG_SECONDS];
        int many = 0;
        int first = 0;
        int last = 0;
        int shortest = 0;
        int longest = 0;

        void look(int[] numbers, int size) {
            many = 0;
            first = 0;
            last = 0;
            shortest = 0;
            longest = 0;
            for (int i = 1; i < size && i < numbers.length; i++) {
                if (numbers[i - 1] < 0 && numbers[i] >= 0) {
                    cross(i);
                }
            }
        }

        private void cross(int i) {
            if (many == 0) {
                first = i;
            } else {
                shortest = many == 1 ? i - last : Math.min(shortest, i - last);
                longest = Math.max(longest, i - last);
            }
            last = i;
            many++;
        }

        // The last SECOND behind which what was heard is loud, 0 if none is.
        int lastLoud() {
            for (int i = RUNG_SECONDS; i > 0; i--) {
                if (heard[i - 1] > LOUD || heard[i - 1] < -LOUD) {
                    return i;
                }
            }
            return 0;
        }

        boolean haveBeat() {
            return many >= 2;
        }

        int cutBeat() {
            return haveBeat() ? (last - first) / (many - 1) : 0;
        }
    }

    /** The fraction that was told last. */
    private static final class Fraction {
        long top = 0;
        long bottom = 1;

        void tell(int over, int under) {
            int by = Math.max(1, divisor(over, under));
            top = over / by;
            bottom = Math.max(1, under / by);
        }

        // Euclid's steps on ints never number more than 50.
        private static int divisor(int a, int b) {
            int x = a;
            int y = b;
            for (int i = 0; i < 64 && y != 0; i++) {
                int rest = x % y;
                x = y;
                y = rest;
            }
            return Math.abs(x);
        }
    }

    /**
     * Reads a TEXT as a HARBOUR or as a SEA. Whatever can't go on leaves the reading place where the FAULT is:
     * a wrong sign is not taken, a number that is out of its bounds is.
     */
    private static final class Reader {
        private static final int END = 1000;

        final Basin basin = new Basin();
        final Swell swell = new Swell();
        private Letters text = new Letters();
        private int place = 0;

        int readHarbour(Letters from) {
            open(from);
            basin.renew();
            skipBlanks();
            if (!take('c')) {
                return place;
            }
            int cells = number(FEWEST_CELLS, MOST_CELLS);
            if (cells < 0) {
                return place;
            }
            basin.cells = cells;
            skipBlanks();
            for (int i = 0; i < MOST_BYTES && place < text.size; i++) {
                if (!harbourItem()) {
                    return place;
                }
                skipBlanks();
            }
            return NONE;
        }

        int readSea(Letters from) {
            open(from);
            swell.renew();
            skipBlanks();
            for (int i = 0; i < MOST_BYTES && place < text.size; i++) {
                if (!seaItem()) {
                    return place;
                }
                skipBlanks();
            }
            return NONE;
        }

        private boolean harbourItem() {
            if (take('d')) {
                return depthItem();
            }
            if (take('w')) {
                return wallItem();
            }
            if (take('m')) {
                return mouthItem();
            }
            return take('r') && rubItem();
        }

        private boolean depthItem() {
            int k = number(0, basin.cells - 1);
            if (k < 0 || !take(':')) {
                return false;
            }
            int v = figure(1);
            if (v < 0 || !basin.hasCell(k)) {
                return false;
            }
            basin.depths[k] = v;
            return true;
        }

        private boolean wallItem() {
            int k = number(0, basin.cells - 2);
            if (k < 0) {
                return false;
            }
            basin.raiseWall(k);
            return true;
        }

        private boolean mouthItem() {
            int k = number(0, basin.cells - 1);
            if (k < 0 || !take(':')) {
                return false;
            }
            int g = figure(0);
            if (g < 0) {
                return false;
            }
            basin.mouth = k;
            basin.width = g;
            return true;
        }

        private boolean rubItem() {
            int v = figure(0);
            if (v < 0) {
                return false;
            }
            basin.rub = v;
            return true;
        }

        private boolean seaItem() {
            if (swell.sets >= MOST_SETS || !take('p')) {
                return false;
            }
            int beat = number(2, 60);
            if (beat < 0 || !take(':')) {
                return false;
            }
            int push = number(0, 99);
            if (push < 0) {
                return false;
            }
            swell.add(beat, push);
            return true;
        }

        private void open(Letters from) {
            text = from;
            place = 0;
        }

        private int sign() {
            return text.has(place) ? text.bytes[place] : END;
        }

        private boolean take(char wanted) {
            if (sign() != wanted) {
                return false;
            }
            place++;
            return true;
        }

        private void skipBlanks() {
            for (int i = 0; i < MOST_BYTES && sign() == ' '; i++) {
                place++;
            }
        }

        // One figure, from the least on; -1 if there is none such here.
        private int figure(int least) {
            int value = sign() - '0';
            if (!within(value, least, 9)) {
                return -1;
            }
            place++;
            return value;
        }

        // One or two figures; -1 if there is none here, or behind a number out of its bounds.
        private int number(int least, int most) {
            int value = figure(0);
            if (value < 0) {
                return -1;
            }
            int next = figure(0);
            if (next >= 0) {
                value = 10 * value + next;
            }
            return within(value, least, most) ? value : -1;
        }
    }
}
