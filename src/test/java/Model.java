import java.math.BigInteger;
import java.nio.charset.StandardCharsets;
import java.util.ArrayList;
import java.util.Arrays;
import java.util.Comparator;
import java.util.List;
import java.util.regex.Matcher;
import java.util.regex.Pattern;

/**
 * The document told a second time, slowly and with the whole Java library: one ship a simulation, a new list for
 * every row, refusals as exceptions. The random runs hold SurgeBasin against it.
 */
final class Model {
    static final class Refused extends RuntimeException {
        final int code;
        final int finding;

        Refused(int code, int finding) {
            super(null, null, false, false);
            this.code = code;
            this.finding = finding;
        }
    }

    static final class Fault extends RuntimeException {
        final int place;

        Fault(int place) {
            super(null, null, false, false);
            this.place = place;
        }
    }

    record Set(int beat, int push) { }

    record Work(int kind, int k, int v, int cost) { }

    record Ship(int cell, int weight, int tight, int slack, int strength) {
        Ship at(int otherCell) {
            return new Ship(otherCell, weight, tight, slack, strength);
        }

        Ship tightened(int otherTight) {
            return new Ship(cell, weight, otherTight, slack, strength);
        }
    }

    static final class Harbour {
        int[] depth;
        boolean[] wall;
        int mouth = 0;
        int width = 4;
        int rub = 1;

        Harbour(int cells) {
            depth = new int[cells];
            Arrays.fill(depth, 4);
            wall = new boolean[cells - 1];
        }

        Harbour with(Work w) {
            Harbour h = new Harbour(depth.length);
            h.depth = depth.clone();
            h.wall = wall.clone();
            h.mouth = mouth;
            h.width = width;
            h.rub = rub;
            if (w == null) {
                return h;
            }
            if (w.kind <= 1 && w.k < h.wall.length) {
                h.wall[w.k] = w.kind == 0;
            }
            if (w.kind == 2) {
                h.width = Math.min(9, h.width + w.v);
            }
            if (w.kind == 3) {
                h.width = Math.max(0, h.width - w.v);
            }
            if (w.kind == 4 && w.k < h.depth.length) {
                h.depth[w.k] = Math.min(9, h.depth[w.k] + w.v);
            }
            if (w.kind == 5 && w.k < h.depth.length) {
                h.depth[w.k] = Math.max(1, h.depth[w.k] - w.v);
            }
            return h;
        }
    }

    /** A night with at most three ships; null where one is missing. */
    static final class Night {
        final Harbour harbour;
        final List<Set> sea;
        final Ship[] ships;
        final long[] height;
        final long[] flow;
        final long[] place = new long[3];
        final long[] speed = new long[3];
        final long[] pull = new long[3];
        final int[] parted = {-9, -9, -9};
        final List<long[]> seen = new ArrayList<>();
        int second = 0;

        Night(Harbour harbour, List<Set> sea, Ship... ships) {
            this.harbour = harbour;
            this.sea = sea;
            this.ships = Arrays.copyOf(ships, 3);
            height = new long[harbour.depth.length];
            flow = new long[harbour.depth.length - 1];
        }

        Night twin() {
            Night n = new Night(harbour, sea, ships);
            System.arraycopy(height, 0, n.height, 0, height.length);
            System.arraycopy(flow, 0, n.flow, 0, flow.length);
            System.arraycopy(place, 0, n.place, 0, 3);
            System.arraycopy(speed, 0, n.speed, 0, 3);
            System.arraycopy(pull, 0, n.pull, 0, 3);
            System.arraycopy(parted, 0, n.parted, 0, 3);
            n.seen.addAll(seen);
            n.second = second;
            return n;
        }

        Night gone(int seconds) {
            for (int i = 0; i < seconds; i++) {
                passOne();
            }
            return this;
        }

        void passOne() {
            int t = second;
            for (int i = 0; i < flow.length; i++) {
                if (harbour.wall[i]) {
                    flow[i] = 0;
                    continue;
                }
                long above = height[i] - height[i + 1];
                flow[i] = flow[i] + above * Math.min(harbour.depth[i], harbour.depth[i + 1]) / 16;
                flow[i] = flow[i] - flow[i] * harbour.rub / 64;
            }
            long push = 0;
            for (Set s : sea) {
                if (t % s.beat < s.beat / 2) {
                    push += s.push;
                } else {
                    push -= s.push;
                }
            }
            for (int i = 0; i < flow.length; i++) {
                height[i] -= flow[i];
                height[i + 1] += flow[i];
            }
            height[harbour.mouth] += (push - height[harbour.mouth]) * harbour.width / 16;
            for (int s = 0; s < 3; s++) {
                if (ships[s] != null) {
                    ride(s, t);
                }
            }
            seen.add(height.clone());
            second++;
        }

        void ride(int s, int t) {
            int cell = ships[s].cell;
            long to = cell == 0 ? 0 : flow[cell - 1];
            long from = cell == height.length - 1 ? 0 : flow[cell];
            rideOne(ships[s], s, to + from);
            long strain = strain(ships[s], place[s]);
            if (strain > pull[s]) {
                pull[s] = strain;
            }
            if (strain > ships[s].strength && parted[s] == -9) {
                parted[s] = t;
            }
        }

        void rideOne(Ship ship, int s, long flows) {
            long strain = strain(ship, place[s]);
            speed[s] += (flows - Long.signum(place[s]) * strain) / (4L * ship.weight);
            speed[s] -= speed[s] / 16;
            place[s] += speed[s];
        }

        static long strain(Ship ship, long place) {
            long far = place < 0 ? -place : place;
            return far > ship.slack ? (far - ship.slack) * ship.tight : 0;
        }

        long range(int k) {
            return seen.isEmpty() ? 0 : seen.stream().mapToLong(h -> h[k]).max().getAsLong()
                    - seen.stream().mapToLong(h -> h[k]).min().getAsLong();
        }

        int loudest() {
            int best = 0;
            for (int i = 0; i < height.length; i++) {
                if (range(i) > range(best)) {
                    best = i;
                }
            }
            return best;
        }

        int stillest() {
            int best = 0;
            for (int i = 0; i < height.length; i++) {
                if (range(i) < range(best)) {
                    best = i;
                }
            }
            return best;
        }

        long quiet() {
            return range(loudest());
        }
    }

    final int[][] rows = new int[6][];
    final byte[][] texts = new byte[4][];
    final Harbour[] harbours = new Harbour[4];
    final List<List<Set>> seas = new ArrayList<>(Arrays.asList(null, null, null, null));
    final Ship[] ships = new Ship[3];
    final List<Work> works = new ArrayList<>();
    final Night[] kept = new Night[3];
    Night night = null;
    long asked = 0;
    long upper = 0;
    long lower = 1;
    int finding = 0;
    final int[] findings = new int[6];

    static void bad(boolean is) {
        if (is) {
            throw new Refused(-1, 0);
        }
    }

    static void state(boolean is) {
        if (is) {
            throw new Refused(-4, 0);
        }
    }

    static void find(boolean is, int f) {
        if (is) {
            throw new Refused(-3, f);
        }
    }

    static boolean out(int v, int least, int most) {
        return v < least || v > most;
    }

    /** Any call but digest() by its name. */
    long call(String name, int[] a) {
        try {
            return answer(name, a);
        } catch (Refused r) {
            if (r.finding > 0) {
                finding = r.finding;
                findings[r.finding]++;
            }
            return r.code;
        }
    }

    private long answer(String name, int[] a) {
        switch (name) {
            case "row": return row(a[0], a[1]);
            case "lay": return lay(a[0], a[1], a[2]);
            case "at": return at(a[0], a[1]);
            case "tear": return tear(a[0]);
            case "copy": return copy(a[0], a[1], a[2], a[3], a[4]);
            case "mean": return mean(a[0]);
            case "text": return text(a[0], a[1]);
            case "put": return put(a[0], a[1], a[2]);
            case "fault": return fault(a[0], a[1] != 0);
            case "harbour": return harbour(a[0], a[1]);
            case "sea": return sea(a[0], a[1]);
            case "about": return about(a[0], a[1]);
            case "set": return set(a[0], a[1]);
            case "ship": return ship(a);
            case "leave": return leave(a[0]);
            case "night": return night(a[0], a[1]);
            case "go": return go(a[0]);
            case "cell": return cell(a[0], a[1]);
            case "rides": return rides(a[0], a[1]);
            case "gauge": return gauge(a[0], a[1], a[2]);
            case "keep": return keep(a[0]);
            case "on": return on(a[0]);
            case "water": return water();
            case "beat": return beat(a[0]);
            case "span": return span(a[0]);
            case "ring": return ring(a[0], a[1]);
            case "roll": return roll(a[0]);
            case "kind": return kind(a[0], a[1], a[2], a[3]);
            case "mark": return mark(a[0], a[1], a[2], a[3], a[4]);
            case "quiet": return quiet(a[0], a[1]);
            case "still": return still(a[0], a[1]);
            case "wakes": return wakes(a[0]);
            case "pull": return pull(a[0], a[1], a[2]);
            case "tight": return tight(a[0], a[1], a[2]);
            case "where": return where(a[0], a[1], a[2]);
            case "tonight": return tonight(a[0], a[1], a[2]);
            case "odds": return odds(a[0], a[1]);
            case "work": return work(a[0], a[1], a[2], a[3]);
            case "back": return back(a[0]);
            case "does": return does(a[0], a[1], a[2]);
            case "worse": return worse(a[0], a[1]);
            case "least": return least(a[0], a[1], a[2]);
            case "since": return since(a[0], a[1], a[2], a[3], a[4]);
            case "which": return which(a[0], a[1], a[2]);
            case "asked": return asked;
            case "upper": return upper;
            case "lower": return lower;
            case "count": return count(a[0]);
            case "finding": return finding;
            case "findings": bad(out(a[0], 1, 5)); return findings[a[0]];
            case "digest": return digest();
            default: throw new IllegalStateException(name);
        }
    }

    // ---- 1

    int row(int r, int n) {
        bad(out(r, 0, 5) || n > 60);
        find(n < 0, 5);
        rows[r] = new int[n];
        return n;
    }

    int[] rowAt(int r) {
        bad(out(r, 0, 5));
        find(rows[r] == null, 1);
        return rows[r];
    }

    int lay(int r, int i, int v) {
        int[] row = rowAt(r);
        find(out(i, 0, row.length - 1), 2);
        asked = row[i];
        row[i] = v;
        return 1;
    }

    int at(int r, int i) {
        int[] row = rowAt(r);
        find(out(i, 0, row.length - 1), 2);
        asked = row[i];
        return 1;
    }

    int tear(int r) {
        rowAt(r);
        rows[r] = null;
        return 1;
    }

    int copy(int r, int i, int to, int j, int n) {
        bad(out(r, 0, 5) || out(to, 0, 5));
        find(n < 0, 5);
        find(rows[r] == null || rows[to] == null, 1);
        find(i < 0 || j < 0 || (long) i + n > rows[r].length || (long) j + n > rows[to].length, 2);
        int[] taken = Arrays.copyOfRange(rows[r], i, i + n);
        for (int x = 0; x < n; x++) {
            rows[to][j + x] = taken[x];
        }
        return 1;
    }

    int mean(int r) {
        int[] row = rowAt(r);
        find(row.length == 0, 4);
        BigInteger sum = BigInteger.ZERO;
        for (int v : row) {
            sum = sum.add(BigInteger.valueOf(v));
        }
        asked = sum.divide(BigInteger.valueOf(row.length)).intValueExact();
        return 1;
    }

    int text(int t, int n) {
        bad(out(t, 0, 3) || n > 100);
        find(n < 0, 5);
        texts[t] = new byte[n];
        Arrays.fill(texts[t], (byte) 32);
        return n;
    }

    byte[] textAt(int t) {
        bad(out(t, 0, 3));
        find(texts[t] == null, 1);
        return texts[t];
    }

    int put(int t, int i, int v) {
        byte[] text = textAt(t);
        find(out(i, 0, text.length - 1), 2);
        int was = text[i];
        text[i] = (byte) v;
        return was + 1000;
    }

    int fault(int t, boolean sea) {
        byte[] text = textAt(t);
        try {
            if (sea) {
                readSea(text);
            } else {
                readHarbour(text);
            }
            return -9;
        } catch (Fault f) {
            return f.place;
        }
    }

    private static final Pattern FIGURES = Pattern.compile("[0-9]{1,2}");
    private static final Pattern FIGURE = Pattern.compile("[0-9]");

    /** {value, the place behind}; a number out of its bounds faults behind itself. */
    private static int[] number(String s, int from, int least, int most) {
        Matcher m = FIGURES.matcher(s).region(from, s.length());
        if (!m.lookingAt()) {
            throw new Fault(from);
        }
        int v = Integer.parseInt(m.group());
        if (out(v, least, most)) {
            throw new Fault(m.end());
        }
        return new int[] {v, m.end()};
    }

    private static int figure(String s, int from, int least) {
        Matcher m = FIGURE.matcher(s).region(from, s.length());
        if (!m.lookingAt() || Integer.parseInt(m.group()) < least) {
            throw new Fault(from);
        }
        return Integer.parseInt(m.group());
    }

    private static void colon(String s, int at) {
        if (!s.startsWith(":", at)) {
            throw new Fault(at);
        }
    }

    private static int blanks(String s, int from) {
        int at = from;
        while (s.startsWith(" ", at)) {
            at++;
        }
        return at;
    }

    static Harbour readHarbour(byte[] text) {
        String s = new String(text, StandardCharsets.ISO_8859_1);
        int at = blanks(s, 0);
        if (!s.startsWith("c", at)) {
            throw new Fault(at);
        }
        int[] n = number(s, at + 1, 3, 16);
        Harbour h = new Harbour(n[0]);
        at = blanks(s, n[1]);
        while (at < s.length()) {
            at = blanks(s, readItem(s, at, h));
        }
        return h;
    }

    private static int readItem(String s, int at, Harbour h) {
        int cells = h.depth.length;
        switch (s.charAt(at)) {
            case 'd': {
                int[] k = number(s, at + 1, 0, cells - 1);
                colon(s, k[1]);
                h.depth[k[0]] = figure(s, k[1] + 1, 1);
                return k[1] + 2;
            }
            case 'w': {
                int[] k = number(s, at + 1, 0, cells - 2);
                h.wall[k[0]] = true;
                return k[1];
            }
            case 'm': {
                int[] k = number(s, at + 1, 0, cells - 1);
                colon(s, k[1]);
                h.width = figure(s, k[1] + 1, 0);
                h.mouth = k[0];
                return k[1] + 2;
            }
            case 'r':
                h.rub = figure(s, at + 1, 0);
                return at + 2;
            default:
                throw new Fault(at);
        }
    }

    static List<Set> readSea(byte[] text) {
        String s = new String(text, StandardCharsets.ISO_8859_1);
        List<Set> sets = new ArrayList<>();
        int at = blanks(s, 0);
        while (at < s.length()) {
            if (s.charAt(at) != 'p' || sets.size() == 4) {
                throw new Fault(at);
            }
            int[] beat = number(s, at + 1, 2, 60);
            colon(s, beat[1]);
            int[] push = number(s, beat[1] + 1, 0, 99);
            sets.add(new Set(beat[0], push[0]));
            at = blanks(s, push[1]);
        }
        return sets;
    }

    int harbour(int k, int t) {
        bad(out(k, 0, 3));
        byte[] text = textAt(t);
        state(fault(t, false) != -9);
        harbours[k] = readHarbour(text);
        return harbours[k].depth.length;
    }

    int sea(int k, int t) {
        bad(out(k, 0, 3));
        byte[] text = textAt(t);
        state(fault(t, true) != -9);
        seas.set(k, readSea(text));
        return seas.get(k).size();
    }

    Harbour harbourAt(int k) {
        find(harbours[k] == null, 1);
        return harbours[k];
    }

    List<Set> seaAt(int k) {
        find(seas.get(k) == null, 1);
        return seas.get(k);
    }

    static int walls(Harbour h) {
        int bits = 0;
        for (int i = 0; i < h.wall.length; i++) {
            bits += h.wall[i] ? 1 << i : 0;
        }
        return bits;
    }

    int about(int k, int what) {
        bad(out(k, 0, 3) || out(what, 0, 20));
        Harbour h = harbourAt(k);
        find(what - 5 >= h.depth.length, 2);
        if (what >= 5) {
            asked = h.depth[what - 5];
        } else {
            asked = new int[] {h.depth.length, h.mouth, h.width, h.rub, walls(h)}[what];
        }
        return 1;
    }

    int set(int k, int i) {
        bad(out(k, 0, 3));
        List<Set> sea = seaAt(k);
        find(out(i, 0, sea.size() - 1), 2);
        asked = sea.get(i).push;
        return sea.get(i).beat;
    }

    int ship(int[] a) {
        bad(out(a[0], 0, 2) || out(a[1], 0, 15) || out(a[2], 1, 9) || out(a[3], 1, 9) || out(a[4], 0, 30)
                || out(a[5], 1, 9999));
        ships[a[0]] = new Ship(a[1], a[2], a[3], a[4], a[5]);
        return 1;
    }

    int leave(int s) {
        bad(out(s, 0, 2));
        state(ships[s] == null);
        ships[s] = null;
        return 1;
    }

    // ---- 2

    int night(int harbour, int sea) {
        bad(out(harbour, 0, 3) || out(sea, 0, 3));
        Harbour h = harbourAt(harbour);
        List<Set> q = seaAt(sea);
        for (Ship s : ships) {
            state(s != null && s.cell >= h.depth.length);
        }
        night = new Night(h, q, ships);
        return h.depth.length;
    }

    void spent(int n) {
        if (night.second + n > 10000) {
            throw new Refused(-6, 0);
        }
    }

    int go(int n) {
        bad(out(n, 0, 400));
        state(night == null);
        spent(n);
        return night.gone(n).second;
    }

    int cell(int k, int what) {
        bad(out(k, 0, 15) || out(what, 0, 2));
        state(night == null);
        find(k >= night.height.length, 2);
        asked = what == 0 ? night.height[k] : what == 2 ? night.range(k) : k < night.flow.length ? night.flow[k] : 0;
        return 1;
    }

    int rides(int s, int what) {
        bad(out(s, 0, 2) || out(what, 0, 3));
        state(night == null || night.ships[s] == null);
        asked = new long[] {night.place[s], night.speed[s], night.pull[s], night.parted[s]}[what];
        return 1;
    }

    int gauge(int cell, int n, int r) {
        bad(out(cell, 0, 15) || out(n, 0, 60) || out(r, 0, 5));
        state(night == null);
        find(cell >= night.height.length, 2);
        spent(n);
        rows[r] = new int[n];
        for (int i = 0; i < n; i++) {
            night.passOne();
            rows[r][i] = (int) night.height[cell];
        }
        return night.second;
    }

    int keep(int k) {
        bad(out(k, 0, 2));
        state(night == null);
        kept[k] = night.twin();
        return night.second;
    }

    int on(int k) {
        bad(out(k, 0, 2));
        find(kept[k] == null, 1);
        night = kept[k].twin();
        return night.second;
    }

    int water() {
        state(night == null);
        asked = Arrays.stream(night.height).sum();
        return 1;
    }

    // ---- 3

    static List<Integer> crossings(int[] row) {
        List<Integer> at = new ArrayList<>();
        for (int i = 1; i < row.length; i++) {
            if (row[i - 1] < 0 && row[i] >= 0) {
                at.add(i);
            }
        }
        return at;
    }

    void tellFraction(long a, long b) {
        BigInteger by = BigInteger.valueOf(a).gcd(BigInteger.valueOf(b));
        upper = a / by.longValueExact();
        lower = b / by.longValueExact();
    }

    int tellBeat(int[] row) {
        List<Integer> at = crossings(row);
        find(at.size() < 2, 4);
        tellFraction(at.get(at.size() - 1) - at.get(0), at.size() - 1);
        return at.size();
    }

    /** The beat cut, or -1. */
    static int cutBeat(int[] row) {
        List<Integer> at = crossings(row);
        return at.size() < 2 ? -1 : (at.get(at.size() - 1) - at.get(0)) / (at.size() - 1);
    }

    int beat(int r) {
        return tellBeat(rowAt(r));
    }

    int span(int r) {
        List<Integer> at = crossings(rowAt(r));
        find(at.size() < 2, 4);
        List<Integer> gaps = new ArrayList<>();
        for (int i = 1; i < at.size(); i++) {
            gaps.add(at.get(i) - at.get(i - 1));
        }
        gaps.sort(Comparator.naturalOrder());
        asked = gaps.get(gaps.size() - 1);
        return gaps.get(0);
    }

    static int[] ringOf(Harbour h, int cell) {
        Night n = new Night(h, List.of());
        n.height[cell] = 1000;
        n.gone(400);
        return n.seen.stream().mapToInt(x -> (int) x[cell]).toArray();
    }

    static int[] rollOf(Ship s) {
        Night n = new Night(new Harbour(3), List.of());
        n.place[0] = s.slack + 100;
        int[] places = new int[400];
        for (int i = 0; i < 400; i++) {
            n.rideOne(s, 0, 0);
            places[i] = (int) n.place[0];
        }
        return places;
    }

    int ring(int harbour, int cell) {
        bad(out(harbour, 0, 3) || out(cell, 0, 15));
        find(cell >= harbourAt(harbour).depth.length, 2);
        return tellBeat(ringOf(harbours[harbour], cell));
    }

    Ship shipAt(int s) {
        bad(out(s, 0, 2));
        state(ships[s] == null);
        return ships[s];
    }

    int roll(int s) {
        return tellBeat(rollOf(shipAt(s)));
    }

    int kind(int which, int a, int b, int c) {
        bad(out(which, 0, 2));
        if (which == 0) {
            bad(out(a, 0, 3) || out(b, 0, 15));
            find(b >= harbourAt(a).depth.length, 2);
            int[] ring = ringOf(harbours[a], b);
            find(cutBeat(ring) < 0, 4);
            boolean dying = Arrays.stream(ring, 300, 400).allMatch(h -> h >= -100 && h <= 100);
            return dying ? 5 : 1;
        }
        if (which == 1) {
            bad(out(a, 0, 3) || out(c, 0, 3));
            List<Set> sea = seaAt(a);
            Harbour h = harbourAt(c);
            find(out(b, 0, sea.size() - 1), 2);
            int cut = cutBeat(ringOf(h, h.mouth));
            return cut >= 0 && Math.abs(sea.get(b).beat - cut) <= 2 ? 4 : 2;
        }
        find(cutBeat(rollOf(shipAt(a))) < 0, 4);
        return 3;
    }

    int mark(int which, int a, int b, int c, int kind) {
        bad(out(kind, 1, 5));
        int is = kind(which, a, b, c);
        boolean fits = which == 0 && (kind == 1 || kind == 5 && is == 5) || which == 1 && (kind == 2 || kind == 4 && is == 4)
                || which == 2 && kind == 3;
        find(!fits, 3);
        if (kind == 1) {
            return cutBeat(ringOf(harbours[a], b));
        }
        if (kind == 2) {
            return seas.get(a).get(b).beat;
        }
        if (kind == 3) {
            return cutBeat(rollOf(ships[a]));
        }
        if (kind == 4) {
            return Math.abs(seas.get(a).get(b).beat - cutBeat(ringOf(harbours[c], harbours[c].mouth)));
        }
        int[] ring = ringOf(harbours[a], b);
        int last = 0;
        for (int i = 0; i < 400; i++) {
            if (ring[i] > 100 || ring[i] < -100) {
                last = i + 1;
            }
        }
        return last;
    }

    // ---- 4

    static Night woken(Harbour h, List<Set> sea, Ship... ships) {
        return new Night(h, sea, ships).gone(300);
    }

    Night wokenAt(int harbour, int sea) {
        bad(out(harbour, 0, 3) || out(sea, 0, 3));
        Harbour h = harbourAt(harbour);
        return woken(h, seaAt(sea));
    }

    long quiet(int harbour, int sea) {
        Night n = wokenAt(harbour, sea);
        asked = n.loudest();
        return n.quiet();
    }

    int still(int harbour, int sea) {
        Night n = wokenAt(harbour, sea);
        asked = n.range(n.stillest());
        return n.stillest();
    }

    boolean noSea() {
        return seas.stream().allMatch(x -> x == null);
    }

    int wakes(int harbour) {
        bad(out(harbour, 0, 3));
        find(noSea(), 1);
        Harbour h = harbourAt(harbour);
        int best = -1;
        long most = -1;
        for (int i = 0; i < 4; i++) {
            if (seas.get(i) != null && woken(h, seas.get(i)).quiet() > most) {
                most = woken(h, seas.get(i)).quiet();
                best = i;
            }
        }
        asked = most;
        return best;
    }

    Ship shipFor(int s, int harbour, int sea) {
        bad(out(s, 0, 2) || out(harbour, 0, 3) || out(sea, 0, 3));
        state(ships[s] == null);
        harbourAt(harbour);
        seaAt(sea);
        return ships[s];
    }

    long pull(int s, int harbour, int sea) {
        Ship ship = shipFor(s, harbour, sea);
        find(ship.cell >= harbours[harbour].depth.length, 2);
        Night n = woken(harbours[harbour], seas.get(sea), ship);
        asked = n.parted[0];
        return n.pull[0];
    }

    int tight(int s, int harbour, int sea) {
        Ship ship = shipFor(s, harbour, sea);
        find(ship.cell >= harbours[harbour].depth.length, 2);
        int best = 0;
        long least = Long.MAX_VALUE;
        for (int t = 9; t >= 1; t--) {
            long its = woken(harbours[harbour], seas.get(sea), ship.tightened(t)).pull[0];
            if (its <= least) {
                least = its;
                best = t;
            }
        }
        asked = least;
        return best;
    }

    int where(int s, int harbour, int sea) {
        Ship ship = shipFor(s, harbour, sea);
        int best = 0;
        long least = Long.MAX_VALUE;
        for (int k = harbours[harbour].depth.length - 1; k >= 0; k--) {
            long its = woken(harbours[harbour], seas.get(sea), ship.at(k)).pull[0];
            if (its <= least) {
                least = its;
                best = k;
            }
        }
        asked = least;
        return best;
    }

    int tonight(int harbour, int sea, int r) {
        bad(out(harbour, 0, 3) || out(sea, 0, 3) || out(r, 0, 5));
        Harbour h = harbourAt(harbour);
        List<Set> q = seaAt(sea);
        List<Ship> there = new ArrayList<>();
        for (Ship s : ships) {
            if (s != null) {
                there.add(s);
            }
        }
        state(there.isEmpty());
        int cells = h.depth.length;
        List<List<Night>> tried = new ArrayList<>();
        for (Ship s : there) {
            List<Night> each = new ArrayList<>();
            for (int k = 0; k < cells; k++) {
                each.add(woken(h, q, s.at(k)));
            }
            tried.add(each);
        }
        List<int[]> choices = new ArrayList<>();
        choose(new int[0], there.size(), cells, choices);
        Comparator<int[]> order = Comparator.<int[]>comparingLong(c -> parting(c, tried))
                .thenComparingLong(c -> pulling(c, tried))
                .thenComparing(Arrays::compare);
        int[] best = choices.stream().min(order).get();
        rows[r] = best;
        asked = pulling(best, tried);
        return (int) parting(best, tried);
    }

    private static void choose(int[] chosen, int size, int cells, List<int[]> to) {
        if (chosen.length == size) {
            to.add(chosen);
            return;
        }
        for (int k = 0; k < cells; k++) {
            int cell = k;
            if (Arrays.stream(chosen).noneMatch(c -> c == cell)) {
                int[] more = Arrays.copyOf(chosen, chosen.length + 1);
                more[chosen.length] = k;
                choose(more, size, cells, to);
            }
        }
    }

    private static long parting(int[] c, List<List<Night>> tried) {
        long sum = 0;
        for (int i = 0; i < c.length; i++) {
            sum += tried.get(i).get(c[i]).parted[0] == -9 ? 0 : 1;
        }
        return sum;
    }

    private static long pulling(int[] c, List<List<Night>> tried) {
        long sum = 0;
        for (int i = 0; i < c.length; i++) {
            sum += tried.get(i).get(c[i]).pull[0];
        }
        return sum;
    }

    int odds(int s, int harbour) {
        bad(out(s, 0, 2) || out(harbour, 0, 3));
        Ship ship = shipAt(s);
        find(noSea(), 1);
        Harbour h = harbourAt(harbour);
        find(ship.cell >= h.depth.length, 2);
        int all = 0;
        int part = 0;
        for (List<Set> sea : seas) {
            if (sea != null) {
                all++;
                part += woken(h, sea, ship).parted[0] == -9 ? 0 : 1;
            }
        }
        tellFraction(part, all);
        return part;
    }

    // ---- 5

    int work(int kind, int k, int v, int cost) {
        bad(out(kind, 0, 5) || out(k, 0, 15) || out(v, 0, 9) || out(cost, 0, 99));
        if (works.size() == 5) {
            throw new Refused(-2, 0);
        }
        works.add(new Work(kind, k, v, cost));
        return works.size() - 1;
    }

    int back(int n) {
        bad(out(n, 0, works.size()));
        int went = works.size() - n;
        works.subList(n, works.size()).clear();
        return went;
    }

    long quietWith(Harbour h, List<Set> sea, int set) {
        Harbour with = h;
        for (int i = 0; i < works.size(); i++) {
            if ((set & 1 << i) != 0) {
                with = with.with(works.get(i));
            }
        }
        return woken(with, sea).quiet();
    }

    int costOf(int set) {
        int sum = 0;
        for (int i = 0; i < works.size(); i++) {
            sum += (set & 1 << i) != 0 ? works.get(i).cost : 0;
        }
        return sum;
    }

    long does(int harbour, int sea, int set) {
        bad(out(harbour, 0, 3) || out(sea, 0, 3) || set < 0 || set >> works.size() != 0);
        Harbour h = harbourAt(harbour);
        long answer = quietWith(h, seaAt(sea), set);
        asked = costOf(set);
        return answer;
    }

    int worse(int harbour, int sea) {
        bad(out(harbour, 0, 3) || out(sea, 0, 3));
        Harbour h = harbourAt(harbour);
        List<Set> q = seaAt(sea);
        int more = 0;
        int less = 0;
        for (int i = 0; i < works.size(); i++) {
            int by = Long.compare(quietWith(h, q, 1 << i), quietWith(h, q, 0));
            more += by > 0 ? 1 << i : 0;
            less += by < 0 ? 1 << i : 0;
        }
        asked = less;
        return more;
    }

    int least(int harbour, int sea, int c) {
        bad(out(harbour, 0, 3) || out(sea, 0, 3) || out(c, 0, 500));
        Harbour h = harbourAt(harbour);
        List<Set> q = seaAt(sea);
        List<long[]> all = new ArrayList<>();
        for (int set = 0; set < 1 << works.size(); set++) {
            if (costOf(set) <= c) {
                all.add(new long[] {quietWith(h, q, set), costOf(set), set});
            }
        }
        all.sort(Arrays::compare);
        asked = all.get(0)[0];
        return (int) all.get(0)[2];
    }

    static long off(Harbour h, List<Set> sea, int cell, int[] row) {
        Night n = new Night(h, sea).gone(row.length);
        long sum = 0;
        for (int i = 0; i < row.length; i++) {
            sum += Math.abs(row[i] - n.seen.get(i)[cell]);
        }
        return sum;
    }

    int since(int harbour, int sea, int cell, int k, int r) {
        bad(out(harbour, 0, 3) || out(sea, 0, 3) || out(cell, 0, 15) || out(k, 0, 15) || out(r, 0, 5));
        Harbour h = harbourAt(harbour);
        List<Set> q = seaAt(sea);
        int[] row = rowAt(r);
        find(row.length == 0, 5);
        find(cell >= h.depth.length || k >= h.wall.length, 2);
        find(Arrays.stream(row).anyMatch(v -> out(v, -10000, 10000)), 3);
        long as = off(h, q, cell, row);
        long walled = off(h.with(new Work(0, k, 0, 0)), q, cell, row);
        asked = Math.abs(as - walled);
        return as > walled ? 1 : 0;
    }

    int which(int harbour, int cell, int r) {
        bad(out(harbour, 0, 3) || out(cell, 0, 15) || out(r, 0, 5));
        Harbour h = harbourAt(harbour);
        int[] row = rowAt(r);
        find(noSea(), 1);
        find(row.length == 0, 5);
        find(cell >= h.depth.length, 2);
        find(Arrays.stream(row).anyMatch(v -> out(v, -10000, 10000)), 3);
        List<long[]> all = new ArrayList<>();
        for (int i = 0; i < 4; i++) {
            if (seas.get(i) != null) {
                all.add(new long[] {off(h, seas.get(i), cell, row), i});
            }
        }
        all.sort(Arrays::compare);
        asked = all.get(0)[0];
        return (int) all.get(0)[1];
    }

    // ---- 6

    int count(int what) {
        bad(out(what, 0, 7));
        switch (what) {
            case 0: return there(harbours);
            case 1: return there(seas.toArray());
            case 2: return there(ships);
            case 3: return works.size();
            case 4: return night == null ? 0 : night.second;
            case 5: return there(kept);
            case 6: return there(rows);
            default: return there(texts);
        }
    }

    private static int there(Object[] all) {
        return (int) Arrays.stream(all).filter(x -> x != null).count();
    }

    long digest() {
        List<Long> v = new ArrayList<>();
        for (int i = 0; i < 8; i++) {
            v.add((long) count(i));
        }
        for (Harbour h : harbours) {
            if (h == null) {
                v.add(-1L);
                continue;
            }
            v.addAll(List.of((long) h.depth.length, (long) h.mouth, (long) h.width, (long) h.rub, (long) walls(h)));
            Arrays.stream(h.depth).forEach(d -> v.add((long) d));
        }
        for (List<Set> sea : seas) {
            if (sea == null) {
                v.add(-1L);
            } else {
                sea.forEach(s -> v.addAll(List.of((long) s.beat, (long) s.push)));
            }
        }
        for (Ship s : ships) {
            v.addAll(s == null ? List.of(-1L)
                    : List.of((long) s.cell, (long) s.weight, (long) s.tight, (long) s.slack, (long) s.strength));
        }
        works.forEach(w -> v.addAll(List.of((long) w.kind, (long) w.k, (long) w.v, (long) w.cost)));
        addNight(v);
        for (int[] row : rows) {
            v.add(row == null ? -1L : row.length);
            Arrays.stream(row == null ? new int[0] : row).forEach(x -> v.add((long) x));
        }
        for (byte[] text : texts) {
            v.add(text == null ? -1L : text.length);
            for (byte b : text == null ? new byte[0] : text) {
                v.add((long) b);
            }
        }
        long h = 17;
        for (long x : v) {
            h = 31 * h + x;
        }
        return h;
    }

    private void addNight(List<Long> v) {
        if (night == null) {
            v.add(-1L);
            return;
        }
        for (int i = 0; i < night.height.length; i++) {
            v.add(night.height[i]);
            v.add(i < night.flow.length ? night.flow[i] : 0L);
        }
        for (int s = 0; s < 3; s++) {
            if (night.ships[s] != null) {
                v.addAll(List.of(night.place[s], night.speed[s], night.pull[s], (long) night.parted[s]));
            }
        }
    }
}
