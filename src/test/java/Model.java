import java.math.BigInteger;
import java.util.ArrayList;
import java.util.Arrays;
import java.util.List;
import java.util.regex.Matcher;
import java.util.regex.Pattern;

/**
 * The document once more, written apart from the class: kinds as a tree of classes, what will be by
 * copies of everything, what to do by trying all there is. Slow, and free to use the library.
 */
public final class Model {
    static final int BEYOND = -1000001, FULL = -1000002, KIND = -1000003, NONE = -1000004,
            STATE = -1000005, MISSING = -1000006, SIZE = -1000007;

    static class Kind {
        boolean signed(Thing p, int t, int day) { return t >= p.v[1]; }
        int moves() { return 2; }
        int lasts() { return 12; }
        int pays(int weight) { return weight / 10; }
        int delays() { return 0; }
    }
    static class Letter extends Kind {
        @Override boolean signed(Thing p, int t, int day) { return super.signed(p, t, day) && !(p.v[2] < 5); }
        @Override int moves() { return super.moves() / 2; }
        @Override int lasts() { return 3 * super.lasts(); }
        @Override int pays(int weight) { return 0; }
    }
    static class Registered extends Letter {
        @Override boolean signed(Thing p, int t, int day) { return super.signed(p, t, day) && day % 2 != 1; }
        @Override int lasts() { return super.lasts() + 30; }
        @Override int pays(int weight) { return super.pays(weight) + 5; }
    }
    static class Crate extends Kind {
        @Override boolean signed(Thing p, int t, int day) { return t >= p.v[1] + p.v[2] / 20; }
        @Override int moves() { return super.moves() - 1; }
        @Override int lasts() { return 2 * super.lasts(); }
        @Override int pays(int weight) { return 2 * super.pays(weight); }
    }
    static class Clock extends Crate {
        @Override int pays(int weight) { return super.pays(weight) + 10; }
        @Override int delays() { return 1; }
    }
    static class Bride extends Clock {
        @Override boolean signed(Thing p, int t, int day) { return super.signed(p, t, day) && p.v[6] >= 7; }
        @Override int moves() { return 0; }
        @Override int lasts() { return 9999; }
        @Override int pays(int weight) { return 3 * super.pays(weight); }
        @Override int delays() { return super.delays() + 1; }
    }
    static class Socks extends Kind {
        @Override boolean signed(Thing p, int t, int day) { return t > 0; }
        @Override int moves() { return 5; }
        @Override int lasts() { return super.lasts() + 3; }
        @Override int pays(int weight) { return 1; }
    }

    static final Kind[] KINDS = {new Kind(), new Letter(), new Crate(), new Clock(), new Bride(), new Socks(),
        new Registered()};
    static final List<String> WORDS =
        List.of("parcel", "letter", "crate", "clock", "bride", "socks", "registered");
    static final int[] LEAST = {0, 0, 1, 0, 0, 0, 0};
    static final int[] MOST = {6, 20, 99, 9999, 2, 1, 9999};

    /** v: KIND, LINE, WEIGHT, WAITS, STATE, HELD, TURNED. */
    static final class Thing {
        final int[] v;
        Thing(int[] v) { this.v = v; }
        Kind kind() { return KINDS[v[0]]; }
    }

    static final class World {
        int[] list = new int[6];
        int late, storm, amber, day, z = 1;
        List<Thing> things = new ArrayList<>();
        int[] spots = new int[10];

        World() { Arrays.fill(spots, -1); }

        World twin() {
            World w = new World();
            w.list = list.clone();
            w.late = late;
            w.storm = storm;
            w.amber = amber;
            w.day = day;
            w.z = z;
            for (Thing p : things) w.things.add(new Thing(p.v.clone()));
            w.spots = spots.clone();
            return w;
        }

        int tideNow() { return list[(day + late) % 6] + storm; }

        void pass() {
            int t = tideNow();
            for (Thing p : things) {
                if (p.v[4] != 0 || p.v[5] == 1) continue;
                if (p.kind().signed(p, t, day)) {
                    p.v[4] = 1;
                    amber = Math.min(99999, amber + p.kind().pays(p.v[2]));
                    late = Math.min(9999, late + p.kind().delays());
                } else if (t > 0 && t >= p.v[1] - 3) {
                    p.v[6] = Math.min(9999, p.v[6] + 1);
                    p.v[1] = Math.min(20, p.v[1] + p.kind().moves());
                }
            }
            for (Thing p : things) {
                if (p.v[4] != 0) continue;
                p.v[3] = Math.min(9999, p.v[3] + 1);
                if (p.v[3] > p.kind().lasts()) p.v[4] = 2;
            }
            day = Math.min(99999, day + 1);
        }

        World later(int n) {
            World w = twin();
            for (int i = 0; i < n; i++) w.pass();
            return w;
        }

        int among(int state) {
            int set = 0;
            for (int i = 0; i < things.size(); i++) if (things.get(i).v[4] == state) set += 1 << i;
            return set;
        }
    }

    static final class Row {
        int bits;
        int[] n;
    }

    private World w = new World();
    private World kept;
    private final StringBuilder tape = new StringBuilder();
    private final Row[] rows = new Row[4];
    private final int[] found = new int[7];

    private int found(int f) {
        found[BEYOND - f]++;
        return f;
    }

    private boolean there(int parcel) { return parcel >= 0 && parcel < w.things.size(); }
    private static boolean in(int v, int a, int b) { return v >= a && v <= b; }

    public int tide(int i, int v) {
        if (!in(i, 0, 5) || !in(v, 0, 20)) return found(BEYOND);
        int was = w.list[i];
        w.list[i] = v;
        return was;
    }
    public int listed(int i) { return in(i, 0, 5) ? w.list[i] : found(BEYOND); }
    public int set(int what, int v) {
        if (!in(what, 0, 1) || !in(v, 0, what == 0 ? 9999 : 9)) return found(BEYOND);
        int was = what == 0 ? w.late : w.storm;
        if (what == 0) w.late = v; else w.storm = v;
        return was;
    }
    public int parcel(int kind, int line) {
        if (!in(kind, 0, 6) || !in(line, 0, 20)) return found(BEYOND);
        if (w.things.size() == 8) return found(FULL);
        w.things.add(new Thing(new int[] {kind, line, 10, 0, 0, 0, 0}));
        return w.things.size() - 1;
    }
    public int of(int parcel, int what) {
        if (!there(parcel) || !in(what, 0, 10)) return found(BEYOND);
        Thing p = w.things.get(parcel);
        if (what < 7) return p.v[what];
        if (what == 7) return p.kind().moves();
        if (what == 8) return p.kind().lasts();
        return what == 9 ? p.kind().pays(p.v[2]) : p.kind().delays();
    }
    public int change(int parcel, int what, int v) {
        if (!there(parcel) || !in(what, 0, 6) || !in(v, LEAST[what], MOST[what])) return found(BEYOND);
        int was = w.things.get(parcel).v[what];
        w.things.get(parcel).v[what] = v;
        return was;
    }
    public int signs(int parcel, int tide) {
        if (!there(parcel) || !in(tide, 0, 29)) return found(BEYOND);
        Thing p = w.things.get(parcel);
        return p.kind().signed(p, tide, w.day) ? 1 : 0;
    }
    public int onLine(int line) {
        if (!in(line, 0, 20)) return found(BEYOND);
        int set = 0;
        for (int i = 0; i < w.things.size(); i++) {
            Thing p = w.things.get(i);
            if (p.v[4] == 0 && p.v[1] == line) set += 1 << i;
        }
        return set;
    }
    public int go(int n) {
        if (!in(n, 1, 60)) return found(BEYOND);
        if (w.day + n > 99999) return found(STATE);
        w = w.later(n);
        return w.among(1);
    }
    public int now(int what) {
        if (!in(what, 0, 7)) return found(BEYOND);
        int weight = 0;
        for (Thing p : w.things) weight += p.v[4] == 0 ? p.v[2] : 0;
        return new int[] {w.day, w.amber, w.late, w.among(0), w.among(1), w.among(2), w.tideNow(), weight}[what];
    }
    public int ahead(int parcel, int what, int n) {
        if (!there(parcel) || !List.of(1, 3, 4, 6).contains(what) || !in(n, 0, 100)) return found(BEYOND);
        return w.later(n).things.get(parcel).v[what];
    }
    public int sea(int what, int n) {
        if (!List.of(1, 2, 6).contains(what) || !in(n, 0, 100)) return found(BEYOND);
        World u = w.later(n);
        return what == 1 ? u.amber : what == 2 ? u.late : u.tideNow();
    }
    public int when(int parcel, int state) {
        if (!there(parcel) || !in(state, 1, 2)) return found(BEYOND);
        World u = w.twin();
        for (int n = 0; n <= 200; n++, u.pass()) if (u.things.get(parcel).v[4] == state) return n;
        return found(NONE);
    }
    public int cleared() {
        World u = w.twin();
        for (int n = 0; n <= 200; n++, u.pass()) if (u.among(0) == 0) return n;
        return found(NONE);
    }
    public int paid(int v) {
        if (!in(v, 0, 99999)) return found(BEYOND);
        World u = w.twin();
        for (int n = 0; n <= 200; n++, u.pass()) if (u.amber >= v) return n;
        return found(NONE);
    }

    private World with(int parcel, int what, int v) {
        World u = w.twin();
        u.things.get(parcel).v[what] = v;
        return u;
    }
    public int lineFor(int parcel, int n) {
        if (!there(parcel) || !in(n, 0, 60)) return found(BEYOND);
        int best = NONE;
        for (int l = 0; l <= 20; l++) if (with(parcel, 1, l).later(n).things.get(parcel).v[4] == 1) best = l;
        return best == NONE ? found(NONE) : best;
    }
    public int weightFor(int parcel, int n) {
        if (!there(parcel) || !in(n, 0, 60)) return found(BEYOND);
        int best = NONE;
        for (int g = 1; g <= 99; g++) if (with(parcel, 2, g).later(n).things.get(parcel).v[4] == 1) best = g;
        return best == NONE ? found(NONE) : best;
    }
    public int kindFor(int parcel, int n) {
        if (!there(parcel) || !in(n, 0, 60)) return found(BEYOND);
        int best = 6;
        for (int k = 6; k >= 0; k--) {
            if (with(parcel, 0, k).later(n).amber >= with(parcel, 0, best).later(n).amber) best = k;
        }
        return best;
    }
    public int stormFor(int parcel, int n) {
        if (!there(parcel) || !in(n, 0, 60)) return found(BEYOND);
        for (int s = 0; s <= 9; s++) {
            World u = w.twin();
            u.storm = s;
            if (u.later(n).things.get(parcel).v[4] == 1) return s;
        }
        return found(NONE);
    }
    public int holdBack(int n) {
        if (!in(n, 0, 20)) return found(BEYOND);
        int best = -1;
        for (int set = 0; set < 1 << w.things.size(); set++) {
            if (best >= 0 && Integer.bitCount(set) >= Integer.bitCount(best)) continue;
            World u = w.twin();
            for (int i = 0; i < u.things.size(); i++) if ((set >> i & 1) == 1) u.things.get(i).v[5] = 1;
            if (u.later(n).late == w.late) best = set;
        }
        return best < 0 ? found(NONE) : best;
    }

    private int sheetFault(int s) { return !in(s, 0, 3) ? BEYOND : rows[s] == null ? MISSING : 0; }
    private int told(int s, int parcel, int what, int most) {
        if (sheetFault(s) != 0) return found(sheetFault(s));
        if (!there(parcel)) return found(BEYOND);
        int set = 0;
        for (int v = 0; v <= most; v++) {
            boolean fits = true;
            for (int i = 0; i < rows[s].n.length; i++) {
                int line = with(parcel, what, v).later(i + 1).things.get(parcel).v[1];
                fits &= rows[s].n[i] == -1 || rows[s].n[i] == line;
            }
            if (fits) set += 1 << v;
        }
        return set;
    }
    public int fits(int s, int parcel) { return told(s, parcel, 1, 20); }
    public int kinds(int s, int parcel) { return told(s, parcel, 0, 6); }

    private int draw() {
        w.z = w.z * 1103515245 + 12345;
        return w.z >>> 8;
    }
    public int swell(int n) {
        if (!in(n, 1, 20)) return found(BEYOND);
        if (w.day + n > 99999) return found(STATE);
        for (int i = 0; i < n; i++) {
            int place = draw() % 6;
            int tide = draw() % 21;
            w.list[place] = tide;
            w.pass();
        }
        return w.among(1);
    }
    public long odds(int parcel, int n, int what) {
        if (!there(parcel) || !in(n, 0, 13) || !in(what, 0, 1)) return found(BEYOND);
        Thing p = w.things.get(parcel);
        int bad = 0;
        for (int t = 0; t < 21; t++) bad += p.kind().signed(p, t, w.day) ? 0 : 1;
        BigInteger a = BigInteger.valueOf(bad).pow(n), b = BigInteger.valueOf(21).pow(n), g = a.gcd(b);
        return (what == 0 ? a : b).divide(g).longValueExact();
    }
    public int seed(int v) {
        int was = w.z;
        w.z = v;
        return was;
    }

    public int feed(int bytes, int n) {
        if (!in(n, 1, 4)) return found(BEYOND);
        if (tape.length() + n > 120) return found(FULL);
        for (int i = n; i > 0; i--) tape.append((char) (bytes >> 8 * (i - 1) & 255));
        return tape.length();
    }
    public int wipe() {
        int had = tape.length();
        tape.setLength(0);
        return had;
    }

    private static final Pattern TOKEN = Pattern.compile("[a-z]+|[0-9]+|;|[^ ]");
    private List<String> tokens;
    private List<Integer> places;
    private int at;

    private String token() { return at < tokens.size() ? tokens.get(at) : ""; }
    private boolean skip(String word) {
        if (!token().equals(word)) return false;
        at++;
        return true;
    }
    /** The number that stands there, if it is as told; else -1. */
    private int number(int a, int b) {
        if (!token().matches("[0-9]+")) return -1;
        BigInteger v = new BigInteger(token());
        if (v.compareTo(BigInteger.valueOf(a)) < 0 || v.compareTo(BigInteger.valueOf(b)) > 0) return -1;
        at++;
        return v.intValue();
    }
    private boolean item(World u) {
        if (skip("tide")) {
            int i = number(0, 5);
            int v = i < 0 ? -1 : number(0, 20);
            if (v >= 0) u.list[i] = v;
            return v >= 0;
        }
        if (skip("storm")) {
            int v = number(0, 9);
            if (v >= 0) u.storm = v;
            return v >= 0;
        }
        int kind = WORDS.indexOf(token());
        if (kind < 0 || u.things.size() == 8) return false;
        at++;
        int[] v = {kind, 0, 10, 0, 0, 0, 0};
        if (skip("on") && (v[1] = number(0, 20)) < 0) return false;
        if (skip("weighs") && (v[2] = number(1, 99)) < 0) return false;
        if (skip("waits") && (v[3] = number(0, 999)) < 0) return false;
        if (skip("held")) v[5] = 1;
        u.things.add(new Thing(v));
        return true;
    }
    public int text() {
        tokens = new ArrayList<>();
        places = new ArrayList<>();
        Matcher m = TOKEN.matcher(tape);
        while (m.find()) {
            tokens.add(m.group());
            places.add(m.start());
        }
        places.add(tape.length());
        tape.setLength(0);
        at = 0;
        World u = w.twin();
        int items = 0;
        do {
            if (!item(u)) return -1 - places.get(at);
            items++;
        } while (skip(";"));
        if (at < tokens.size()) return -1 - places.get(at);
        w = u;
        return items;
    }

    public int hold(int spot, int parcel) {
        if (!in(spot, 0, 9) || parcel != -1 && !there(parcel)) return found(BEYOND);
        w.spots[spot] = parcel;
        return 1;
    }
    public int as(int spot, int kind) {
        if (!in(spot, 0, 9) || !in(kind, 0, 6)) return found(BEYOND);
        int p = w.spots[spot];
        if (p < 0) return found(MISSING);
        return KINDS[kind].getClass().isInstance(w.things.get(p).kind()) ? p : found(KIND);
    }
    public int sheet(int s, int bits, int n) {
        if (!in(s, 0, 3) || !List.of(0, 8, 16, 32).contains(bits)) return found(BEYOND);
        if (n < 0) return found(SIZE);
        if (n > 40) return found(BEYOND);
        rows[s] = null;
        if (bits == 0) return 0;
        rows[s] = new Row();
        rows[s].bits = bits;
        rows[s].n = new int[n];
        return n;
    }
    public int write(int s, int i, int v) {
        if (sheetFault(s) != 0) return found(sheetFault(s));
        if (!in(i, 0, rows[s].n.length - 1)) return found(BEYOND);
        int shift = 32 - rows[s].bits;
        rows[s].n[i] = v << shift >> shift;
        return 1;
    }
    public int copy(int s, int from, int t, int to, int n) {
        if (!in(s, 0, 3) || !in(t, 0, 3)) return found(BEYOND);
        if (rows[s] == null || rows[t] == null) return found(MISSING);
        if (rows[s].bits != rows[t].bits) return found(KIND);
        if (from < 0 || to < 0 || n < 0 || (long) from + n > rows[s].n.length || (long) to + n > rows[t].n.length) {
            return found(BEYOND);
        }
        int[] were = rows[s].n.clone();
        for (int i = 0; i < n; i++) rows[t].n[to + i] = were[from + i];
        return n;
    }
    public int load(int s) {
        if (sheetFault(s) != 0) return found(sheetFault(s));
        int came = 0;
        for (int v : rows[s].n) {
            if (came == 6 || !in(v, 0, 20)) break;
            w.list[came++] = v;
        }
        return came;
    }
    public int judge(int s) {
        if (sheetFault(s) != 0) return found(sheetFault(s));
        for (int i = 0; i < rows[s].n.length; i++) {
            if (!there(i) || w.things.get(i).v[1] != rows[s].n[i]) return 1 + i;
        }
        return 0;
    }
    public int image() {
        kept = w.twin();
        return 1;
    }
    public int undo() {
        if (kept == null) return found(NONE);
        w = kept.twin();
        return w.day;
    }
    public int tear() {
        int was = kept == null ? 0 : 1;
        kept = null;
        return was;
    }
    public int count(int what) {
        if (!in(what, 0, 7)) return found(BEYOND);
        int holding = 0;
        for (int p : w.spots) holding += p >= 0 ? 1 : 0;
        return new int[] {w.day, w.things.size(), w.amber, w.late, Integer.bitCount(w.among(1)), tape.length(), w.z,
            holding}[what];
    }
    public int status(int which) {
        if (!in(which, -1, 6)) return found(BEYOND);
        return which < 0 ? Arrays.stream(found).sum() : found[which];
    }
}
