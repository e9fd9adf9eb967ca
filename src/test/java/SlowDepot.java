import java.util.ArrayList;
import java.util.List;

/**
 * The document once more, written by other means: lists, NaN and infinity, the float rest, whole copies for undo(),
 * and searches that try everything. RandomRunsTest holds PloughDepot against it.
 */
final class SlowDepot {
    static final int NONE = -1, BAD = -2, FULL = -3, NULL = -4, INDEX = -5, CAST = -6, SIZE = -7, NO = -8, DEEP = -9;

    static final class Street {
        int a, b, length, sides = 1, drift, cleared;
        boolean oneWay, shut, guessed;

        Street copy() {
            Street s = new Street();
            s.a = a; s.b = b; s.length = length; s.sides = sides; s.drift = drift; s.cleared = cleared;
            s.oneWay = oneWay; s.shut = shut; s.guessed = guessed;
            return s;
        }

        boolean may(int from) {
            return !shut && (from == a || from == b && !oneWay);
        }

        int end(int from) {
            return from == a ? b : a;
        }

        boolean must() {
            return !shut && sides > 0;
        }
    }

    static final class Gauge {
        int crossing;
        boolean shorts;
        float[] floats;
        short[] tenths;
        boolean missing = true;

        Gauge copy() {
            Gauge g = new Gauge();
            g.crossing = crossing; g.shorts = shorts; g.missing = missing;
            g.floats = floats == null ? null : floats.clone();
            g.tenths = tenths == null ? null : tenths.clone();
            return g;
        }

        int hours() {
            return shorts ? tenths.length : floats.length;
        }

        /** NaN: it tells nothing. */
        float x(int hour) {
            float x;
            if (shorts) {
                if (tenths[hour] == Short.MIN_VALUE || tenths[hour] == Short.MAX_VALUE) {
                    return Float.NaN;
                }
                x = tenths[hour] / 10f;
            } else {
                x = floats[hour];
                if (Float.isNaN(x) || Float.isInfinite(x)) {
                    return Float.NaN;
                }
            }
            return x < 0 ? 0 : x;
        }

        int read(int hour) {
            float x = x(hour);
            return Float.isNaN(x) ? NONE : Math.min(100000, (int) (x * 10f));
        }
    }

    static final class Plough {
        int kind, minutes, p = -1, q = -1;
        boolean out;
        int first, drives, driven, spent, found, repeated, late;

        Plough copy() {
            Plough c = new Plough();
            c.kind = kind; c.minutes = minutes; c.p = p; c.q = q; c.out = out;
            c.first = first; c.drives = drives; c.driven = driven; c.spent = spent; c.found = found;
            c.repeated = repeated; c.late = late;
            return c;
        }

        void noPart() {
            first = drives = driven = spent = found = repeated = late = 0;
        }

        int part(int what) {
            return new int[] {first, drives, driven, spent, found, minutes, out ? NONE : kind, repeated, late}[what];
        }
    }

    static final class State {
        int crossings;
        List<Street> streets = new ArrayList<>();
        List<Gauge> gauges = new ArrayList<>();
        List<Plough> ploughs = new ArrayList<>();
        List<int[]> drives = new ArrayList<>();
        int[] partner = new int[0];
        int joinings, exchanges, pairs, how;

        State copy() {
            State c = new State();
            c.crossings = crossings;
            for (Street s : streets) c.streets.add(s.copy());
            for (Gauge g : gauges) c.gauges.add(g.copy());
            for (Plough p : ploughs) c.ploughs.add(p.copy());
            c.drives = new ArrayList<>(drives);
            c.partner = partner.clone();
            c.joinings = joinings; c.exchanges = exchanges; c.pairs = pairs; c.how = how;
            return c;
        }
    }

    State now = new State();
    State before = null;
    int[] findings = new int[5];
    int status, trace, looks;
    String text = "";

    private int ok(int v) { status = 0; return v; }

    private void finding(int why) {
        if (why == DEEP) findings[4]++;
        else if (why <= NULL && why >= SIZE) findings[NULL - why]++;
    }

    private int no(int why) { status = why; finding(why); return why; }

    private void change() { before = now.copy(); }

    private boolean crossing(int c) { return c >= 0 && c < now.crossings; }

    private boolean street(int s) { return s >= 0 && s < now.streets.size(); }

    private boolean gauge(int g) { return g >= 0 && g < now.gauges.size(); }

    private boolean plough(int p) { return p >= 0 && p < now.ploughs.size(); }

    int crossings(int n) {
        if (n < 1 || n > 20) return no(BAD);
        if (now.crossings + n > 60) return no(FULL);
        change();
        return ok(now.crossings += n);
    }

    int street(int a, int b, int length, boolean oneWay) {
        if (!crossing(a) || !crossing(b) || a == b || length < 1 || length > 10000) return no(BAD);
        if (now.streets.size() == 150) return no(FULL);
        change();
        Street s = new Street();
        s.a = a; s.b = b; s.length = length; s.oneWay = oneWay;
        now.streets.add(s);
        return ok(now.streets.size() - 1);
    }

    int oneWay(int street, boolean is) {
        if (!street(street)) return no(BAD);
        change();
        int was = now.streets.get(street).oneWay ? 1 : 0;
        now.streets.get(street).oneWay = is;
        return ok(was);
    }

    int shut(int street, boolean is) {
        if (!street(street)) return no(BAD);
        change();
        int was = now.streets.get(street).shut ? 1 : 0;
        now.streets.get(street).shut = is;
        return ok(was);
    }

    int sides(int street, int n) {
        if (!street(street) || n < 0 || n > 2) return no(BAD);
        change();
        Street s = now.streets.get(street);
        int was = s.sides;
        s.sides = n;
        s.cleared = 0;
        return ok(was);
    }

    private int toldOf(Street s, int what) {
        return new int[] {s.drift, s.guessed ? 1 : 0, s.cleared, s.sides, s.shut ? 1 : 0, s.oneWay ? 1 : 0, s.length, s.a, s.b}[what];
    }

    int told(int street, int what) {
        if (!street(street) || what < 0 || what > 8) return no(BAD);
        return ok(toldOf(now.streets.get(street), what));
    }

    // ---- ways: lengths to a crossing by trying every street again and again

    private long[] lengthsTo(int to) {
        long[] d = new long[now.crossings];
        for (int i = 0; i < d.length; i++) d[i] = i == to ? 0 : Long.MAX_VALUE / 4;
        boolean changed = true;
        while (changed) {
            changed = false;
            for (Street s : now.streets) {
                for (int from : new int[] {s.a, s.b}) {
                    if (s.may(from) && d[s.end(from)] + s.length < d[from]) {
                        d[from] = d[s.end(from)] + s.length;
                        changed = true;
                    }
                }
            }
        }
        return d;
    }

    /** null: there is none. */
    List<Integer> wayList(int a, int b) {
        long[] d = lengthsTo(b);
        if (d[a] >= Long.MAX_VALUE / 4) return null;
        List<Integer> way = new ArrayList<>();
        int at = a;
        while (at != b) {
            int best = -1;
            for (int next = 0; next < now.crossings && best < 0; next++) {
                for (int s = 0; s < now.streets.size() && best < 0; s++) {
                    Street t = now.streets.get(s);
                    if (t.may(at) && t.end(at) == next && t.length + d[next] == d[at]) best = s;
                }
            }
            way.add(best);
            at = now.streets.get(best).end(at);
        }
        return way;
    }

    /** Long.MAX_VALUE / 4: there is none. */
    long len(int a, int b) { return lengthsTo(b)[a]; }

    static final long FAR = Long.MAX_VALUE / 4;

    int way(int a, int b) {
        if (!crossing(a) || !crossing(b)) return no(BAD);
        long l = len(a, b);
        return l >= FAR ? no(NO) : ok((int) l);
    }

    int wayAt(int a, int b, int i) {
        if (!crossing(a) || !crossing(b)) return no(BAD);
        List<Integer> way = wayList(a, b);
        if (way == null) return no(NO);
        return ok(i < 0 || i >= way.size() ? NONE : way.get(i));
    }

    // ---- gauges

    int gauge(int crossing, boolean shorts) {
        if (!crossing(crossing)) return no(BAD);
        if (now.gauges.size() == 20) return no(FULL);
        change();
        Gauge g = new Gauge();
        g.crossing = crossing; g.shorts = shorts;
        now.gauges.add(g);
        return ok(now.gauges.size() - 1);
    }

    int row(int gauge, int n) {
        if (!gauge(gauge) || n > 200) return no(BAD);
        if (n < 0) return no(SIZE);
        change();
        Gauge g = now.gauges.get(gauge);
        g.missing = false;
        g.floats = new float[n];
        g.tenths = new short[n];
        return ok(1);
    }

    int lose(int gauge) {
        if (!gauge(gauge)) return no(BAD);
        change();
        Gauge g = now.gauges.get(gauge);
        int had = g.missing ? 0 : 1;
        g.missing = true;
        return ok(had);
    }

    private int whyNot(Gauge g, int hour) {
        if (g.missing) return NULL;
        return hour < 0 || hour >= g.hours() ? INDEX : 0;
    }

    int reading(int gauge, int hour, int v) {
        if (!gauge(gauge)) return no(BAD);
        Gauge g = now.gauges.get(gauge);
        if (whyNot(g, hour) != 0) return no(whyNot(g, hour));
        change();
        g.floats[hour] = (float) v / 8;
        g.tenths[hour] = (short) v;
        return ok(1);
    }

    int none(int gauge, int hour, int which) {
        if (!gauge(gauge) || which < 0 || which > 1) return no(BAD);
        Gauge g = now.gauges.get(gauge);
        if (whyNot(g, hour) != 0) return no(whyNot(g, hour));
        change();
        g.floats[hour] = which == 0 ? Float.NaN : Float.POSITIVE_INFINITY;
        g.tenths[hour] = which == 0 ? Short.MIN_VALUE : Short.MAX_VALUE;
        return ok(1);
    }

    int read(int gauge, int hour) {
        if (!gauge(gauge)) return no(BAD);
        Gauge g = now.gauges.get(gauge);
        if (whyNot(g, hour) != 0) return no(whyNot(g, hour));
        return ok(g.read(hour));
    }

    private int whyNotCopy(Gauge f, int i, Gauge t, int j, int n) {
        if (f.missing || t.missing) return NULL;
        if (i < 0 || j < 0 || n < 0 || (long) i + n > f.hours() || (long) j + n > t.hours()) return INDEX;
        return 0;
    }

    private void copyNow(Gauge f, int i, Gauge t, int j, int n) {
        float[] floats = f.floats.clone();
        short[] tenths = f.tenths.clone();
        for (int k = 0; k < n; k++) {
            t.floats[j + k] = floats[i + k];
            t.tenths[j + k] = tenths[i + k];
        }
    }

    int copy(int from, int i, int to, int j, int n) {
        if (!gauge(from) || !gauge(to)) return no(BAD);
        Gauge f = now.gauges.get(from), t = now.gauges.get(to);
        if (f.shorts != t.shorts) return no(BAD);
        int why = whyNotCopy(f, i, t, j, n);
        if (why != 0) return no(why);
        change();
        copyNow(f, i, t, j, n);
        return ok(1);
    }

    int copies(int i, int j, int n) {
        int copied = 0, why = 0;
        State was = now.copy();
        for (Gauge g : now.gauges) {
            why = whyNotCopy(g, i, g, j, n);
            if (why != 0) break;
            copyNow(g, i, g, j, n);
            copied++;
        }
        if (copied > 0) before = was;
        ok(0);
        if (why != 0) no(why);
        return copied;
    }

    int snow(int hour) {
        if (hour < 0 || hour > 199) return no(BAD);
        change();
        for (Gauge g : now.gauges) finding(whyNot(g, hour));
        int sure = 0;
        for (Street t : now.streets) {
            float s = 0, w = 0;
            for (Gauge g : now.gauges) {
                if (whyNot(g, hour) != 0 || Float.isNaN(g.x(hour))) continue;
                float k = 0;
                if (g.crossing == t.a || g.crossing == t.b) k = 2;
                else {
                    for (Street o : now.streets) {
                        if (o.shut) continue;
                        if (o.a == g.crossing && (o.b == t.a || o.b == t.b)) k = 1;
                        if (o.b == g.crossing && (o.a == t.a || o.a == t.b)) k = 1;
                    }
                }
                if (k == 0) continue;
                s = s + g.x(hour) * k;
                w = w + k;
            }
            t.guessed = !(w > 0);
            if (w > 0) {
                t.drift = Math.min(100000, t.drift + Math.min(100000, (int) ((s / w) * 10)));
                sure++;
            }
        }
        return ok(sure);
    }

    int melt(int t, int s) {
        if (t < 0 || s < 0) return no(BAD);
        if (s == 0) return no(NO);
        change();
        float ft = (float) t / 8, fs = (float) s / 8;
        int n = Math.min(100000, (int) ((ft - ft % fs) / fs));
        for (Street x : now.streets) x.drift = Math.max(0, x.drift - 3 * n);
        return ok(n);
    }

    // ---- ploughs

    int plough(int kind, int minutes) {
        if (kind < 0 || kind > 3 || minutes < 0 || minutes > 10000) return no(BAD);
        if (now.ploughs.size() == 12) return no(FULL);
        change();
        Plough p = new Plough();
        p.kind = kind; p.minutes = minutes;
        now.ploughs.add(p);
        return ok(now.ploughs.size() - 1);
    }

    int pair(int p, int q, int minutes) {
        if (!plough(p) || !plough(q) || p == q || minutes < 0 || minutes > 10000) return no(BAD);
        if (now.ploughs.size() == 12) return no(FULL);
        for (int i : new int[] {p, q}) {
            if (now.ploughs.get(i).out) return no(NULL);
            if (now.ploughs.get(i).kind == 4) return no(CAST);
        }
        change();
        for (int i : new int[] {p, q}) {
            now.ploughs.get(i).out = true;
            now.ploughs.get(i).noPart();
        }
        Plough n = new Plough();
        n.kind = 4; n.minutes = minutes; n.p = p; n.q = q;
        now.ploughs.add(n);
        return ok(now.ploughs.size() - 1);
    }

    int out(int plough) {
        if (!plough(plough)) return no(BAD);
        change();
        Plough p = now.ploughs.get(plough);
        int r = p.out ? 0 : 1;
        p.out = true;
        p.noPart();
        return ok(r);
    }

    private int speed(Plough p) {
        return p.kind == 4 ? Math.min(speed(now.ploughs.get(p.p)), speed(now.ploughs.get(p.q))) : new int[] {50, 30, 45, 20}[p.kind];
    }

    private int reach(Plough p) {
        return p.kind == 4 ? reach(now.ploughs.get(p.p)) + reach(now.ploughs.get(p.q)) : new int[] {200, 600, 200, 400}[p.kind];
    }

    private int takes(Plough p, int length) {
        if (p.kind == 4) {
            trace += 5;
            return Math.max(takes(now.ploughs.get(p.p), length), takes(now.ploughs.get(p.q), length));
        }
        trace += new int[] {1, 1, 21, 11}[p.kind];
        int t = length / speed(p) + (length % speed(p) == 0 ? 0 : 1);
        return t + new int[] {0, 0, 2, 1}[p.kind];
    }

    private int passes(Plough p, int drift) {
        trace += new int[] {100, 1000, 100, 100, 10000}[p.kind];
        int more = p.kind == 1 ? 3 : 2;
        return drift <= reach(p) ? 1 : drift <= more * reach(p) ? more : DEEP;
    }

    int asks(int plough, int street, int what) {
        if (!plough(plough) || !street(street) || what < 0 || what > 3) return no(BAD);
        Plough p = now.ploughs.get(plough);
        if (p.out) return no(NULL);
        Street s = now.streets.get(street);
        if (what == 0) return ok(speed(p));
        if (what == 1) return ok(reach(p));
        if (what == 2) return ok(takes(p, s.length));
        int n = passes(p, s.drift);
        return n == DEEP ? no(DEEP) : ok(n);
    }

    int salt(int plough, int street) {
        if (!plough(plough) || !street(street)) return no(BAD);
        if (now.ploughs.get(plough).out) return no(NULL);
        if (now.ploughs.get(plough).kind != 2) return no(CAST);
        change();
        Street s = now.streets.get(street);
        s.drift = Math.max(0, s.drift - 50);
        return ok(s.drift);
    }

    // ---- the round

    private boolean someOneWay() {
        for (Street s : now.streets) if (!s.shut && s.oneWay) return true;
        return false;
    }

    private List<Integer> oddBy(int[] times) {
        List<Integer> odd = new ArrayList<>();
        for (int c = 0; c < now.crossings; c++) {
            int sum = 0;
            for (int s = 0; s < times.length; s++) {
                if (now.streets.get(s).a == c || now.streets.get(s).b == c) sum += times[s];
            }
            if (sum % 2 == 1) odd.add(c);
        }
        return odd;
    }

    private int[] sidesToClear() {
        int[] times = new int[now.streets.size()];
        for (int s = 0; s < times.length; s++) times[s] = now.streets.get(s).must() ? now.streets.get(s).sides : 0;
        return times;
    }

    int odd(int i) {
        List<Integer> odd = oddBy(sidesToClear());
        return ok(i < 0 || i >= odd.size() ? NONE : odd.get(i));
    }

    /** Tries every pairing, the least partner first: the first of the best ones; null: none. */
    private List<int[]> bestPairs(List<Integer> list, long[][] d) {
        List<int[]> best = new ArrayList<>();
        long[] bestLength = {FAR};
        List<int[]> tried = new ArrayList<>();
        tryPairs(list, d, 0, tried, best, bestLength);
        return bestLength[0] >= FAR ? null : best;
    }

    private void tryPairs(List<Integer> left, long[][] d, long sum, List<int[]> tried, List<int[]> best, long[] bestLength) {
        if (sum >= bestLength[0]) return;
        if (left.isEmpty()) {
            best.clear();
            best.addAll(tried);
            bestLength[0] = sum;
            return;
        }
        int c = left.get(0);
        for (int k = 1; k < left.size(); k++) {
            int e = left.get(k);
            if (d[e][c] >= FAR) continue;
            List<Integer> rest = new ArrayList<>(left);
            rest.remove(k);
            rest.remove(0);
            tried.add(new int[] {c, e});
            tryPairs(rest, d, sum + d[e][c], tried, best, bestLength);
            tried.remove(tried.size() - 1);
        }
    }

    private long[][] allLengths() {
        long[][] d = new long[now.crossings][];
        for (int c = 0; c < d.length; c++) d[c] = lengthsTo(c);
        return d;
    }

    int least(int bits) {
        List<Integer> odd = oddBy(sidesToClear());
        if (odd.size() > 14 || someOneWay() || bits < 0 || bits >= 1 << odd.size()) return no(BAD);
        List<Integer> set = new ArrayList<>();
        for (int i = 0; i < odd.size(); i++) if ((bits & 1 << i) != 0) set.add(odd.get(i));
        long[][] d = allLengths();
        List<int[]> pairs = bestPairs(set, d);
        if (pairs == null) return no(NO);
        long sum = 0;
        for (int[] p : pairs) sum += d[p[1]][p[0]];
        return ok((int) sum);
    }

    private boolean[] reach(int start, int[] left) {
        boolean[] r = new boolean[Math.max(1, now.crossings)];
        r[start] = true;
        boolean more = true;
        while (more) {
            more = false;
            for (int s = 0; s < left.length; s++) {
                Street t = now.streets.get(s);
                if (left[s] > 0 && r[t.a] != r[t.b]) {
                    r[t.a] = r[t.b] = true;
                    more = true;
                }
            }
        }
        return r;
    }

    private State made;

    private int makeA() {
        long[][] d = allLengths();
        int[] times = sidesToClear();
        while (true) {
            boolean[] r = reach(0, times);
            boolean[] far = new boolean[now.crossings];
            boolean some = false;
            for (int s = 0; s < times.length; s++) {
                Street t = now.streets.get(s);
                if (times[s] > 0 && !r[t.a]) { far[t.a] = far[t.b] = true; some = true; }
            }
            if (!some) break;
            long best = FAR;
            int bf = -1, bt = -1;
            for (int f = 0; f < now.crossings; f++) for (int t = 0; t < now.crossings; t++) {
                if (r[f] && far[t] && d[t][f] < best) { best = d[t][f]; bf = f; bt = t; }
            }
            if (bf < 0) return NO;
            for (int s : wayList(bf, bt)) times[s] += 2;
            made.joinings++;
        }
        List<Integer> odd = oddBy(times);
        List<int[]> pairs = odd.size() <= 14 ? bestPairs(odd, d) : exchanged(odd, d);
        for (int[] p : pairs) {
            made.partner[p[0]] = p[1];
            made.partner[p[1]] = p[0];
            for (int s : wayList(p[0], p[1])) times[s]++;
        }
        made.pairs = pairs.size();
        int all = 0;
        for (int t : times) all += t;
        if (all > 2000) return FULL;
        int at = 0;
        int[] left = times.clone();
        for (int n = 0; n < all; n++) {
            int chosen = -1;
            for (int s = 0; s < left.length && chosen < 0; s++) {
                Street t = now.streets.get(s);
                if (left[s] == 0 || t.a != at && t.b != at) continue;
                left[s]--;
                boolean[] r = reach(t.end(at), left);
                boolean good = true;
                for (int o = 0; o < left.length; o++) if (left[o] > 0 && !r[now.streets.get(o).a]) good = false;
                if (good) chosen = s; else left[s]++;
            }
            Street t = now.streets.get(chosen);
            int driven = times[chosen] - left[chosen];
            made.drives.add(new int[] {chosen, at, t.end(at), driven <= t.sides ? 1 : 0});
            at = t.end(at);
        }
        return all;
    }

    private List<int[]> exchanged(List<Integer> odd, long[][] d) {
        List<int[]> pairs = new ArrayList<>();
        for (int i = 0; i < odd.size(); i += 2) pairs.add(new int[] {odd.get(i), odd.get(i + 1)});
        for (int n = 0; n < 1000; n++) {
            boolean did = false;
            for (int i = 0; i < pairs.size() && !did; i++) {
                for (int j = i + 1; j < pairs.size() && !did; j++) {
                    int p = pairs.get(i)[0], q = pairs.get(i)[1], r = pairs.get(j)[0], s = pairs.get(j)[1];
                    long is = d[q][p] + d[s][r];
                    int[] x = null, y = null;
                    if (d[r][p] + d[s][q] < is) { x = new int[] {p, r}; y = new int[] {q, s}; }
                    else if (d[s][p] + d[r][q] < is) { x = new int[] {p, s}; y = new int[] {q, r}; }
                    if (x != null) {
                        pairs.set(i, new int[] {Math.min(x[0], x[1]), Math.max(x[0], x[1])});
                        pairs.set(j, new int[] {Math.min(y[0], y[1]), Math.max(y[0], y[1])});
                        did = true;
                    }
                }
            }
            if (!did) break;
            made.exchanges++;
        }
        return pairs;
    }

    private int makeB() {
        long[][] d = allLengths();
        int[] left = sidesToClear();
        int at = 0;
        while (true) {
            long best = FAR;
            int bs = -1, bc = -1;
            boolean some = false;
            for (int s = 0; s < left.length; s++) {
                if (left[s] == 0) continue;
                some = true;
                Street t = now.streets.get(s);
                for (int c : new int[] {t.a, t.b}) {
                    if (t.may(c) && d[c][at] < best) { best = d[c][at]; bs = s; bc = c; }
                }
            }
            if (!some) break;
            if (bs < 0) return NO;
            for (int s : wayList(at, bc)) {
                if (made.drives.size() == 2000) return FULL;
                made.drives.add(new int[] {s, at, now.streets.get(s).end(at), 0});
                at = now.streets.get(s).end(at);
            }
            if (made.drives.size() == 2000) return FULL;
            made.drives.add(new int[] {bs, at, now.streets.get(bs).end(at), 1});
            at = now.streets.get(bs).end(at);
            left[bs]--;
        }
        List<Integer> back = wayList(at, 0);
        if (back == null) return NO;
        for (int s : back) {
            if (made.drives.size() == 2000) return FULL;
            made.drives.add(new int[] {s, at, now.streets.get(s).end(at), 0});
            at = now.streets.get(s).end(at);
        }
        return made.drives.size();
    }

    int round() {
        made = new State();
        made.partner = new int[now.crossings];
        java.util.Arrays.fill(made.partner, NONE);
        made.how = someOneWay() ? 2 : 1;
        int r = made.how == 2 ? makeB() : makeA();
        if (r < 0) return no(r);
        change();
        now.drives = made.drives;
        now.partner = made.partner;
        now.joinings = made.joinings; now.exchanges = made.exchanges; now.pairs = made.pairs; now.how = made.how;
        for (Plough p : now.ploughs) p.noPart();
        return ok(r);
    }

    int at(int i, int what) {
        if (what < 0 || what > 3) return no(BAD);
        return ok(i < 0 || i >= now.drives.size() ? NONE : now.drives.get(i)[what]);
    }

    int length(int what) {
        if (what < 0 || what > 6) return no(BAD);
        int length = 0, clear = 0;
        for (int[] d : now.drives) { length += now.streets.get(d[0]).length; clear += d[3]; }
        return ok(new int[] {now.drives.size(), length, clear, now.joinings, now.exchanges, now.pairs, now.how}[what]);
    }

    int partner(int crossing) {
        if (!crossing(crossing)) return no(BAD);
        return ok(crossing < now.partner.length ? now.partner[crossing] : NONE);
    }

    int split() {
        State was = now.copy();
        int next = 0;
        List<Plough> given = new ArrayList<>();
        for (Plough old : now.ploughs) {
            Plough p = old.copy();
            given.add(p);
            if (p.out) continue;
            p.noPart();
            p.first = next;
            while (next < now.drives.size()) {
                int[] d = now.drives.get(next);
                Street s = now.streets.get(d[0]);
                int n = d[3] == 1 ? passes(p, s.drift) : 1;
                if (n == DEEP) break;
                int m = n * takes(p, s.length);
                if (p.found + m > p.minutes) break;
                p.found += m;
                p.drives++;
                next++;
            }
        }
        if (next < now.drives.size()) return ok(0);
        before = was;
        now.ploughs = given;
        return ok(1);
    }

    int part(int plough, int what) {
        if (!plough(plough) || what < 0 || what > 8) return no(BAD);
        return ok(now.ploughs.get(plough).part(what));
    }

    int go(int plough, int n) {
        if (!plough(plough) || n < 1 || n > 50) return no(BAD);
        Plough p = now.ploughs.get(plough);
        if (p.out) return no(NULL);
        if (p.driven == p.drives) return no(NO);
        State was = now.copy();
        int done = 0;
        while (done < n && p.driven < p.drives) {
            looks++;
            int[] d = now.drives.get(p.first + p.driven);
            Street s = now.streets.get(d[0]);
            if (s.shut) break;
            int times = 1;
            if (d[3] == 1) {
                int k = passes(p, s.drift);
                if (k == DEEP) finding(DEEP);
                else {
                    times = k;
                    if (k > 1) p.repeated++;
                    if (s.cleared < s.sides) s.cleared++;
                    if (s.cleared >= s.sides) s.drift = 0;
                }
            }
            p.spent += times * takes(p, s.length);
            p.driven++;
            if (p.spent > p.minutes) p.late++;
            done++;
        }
        if (done > 0) before = was;
        return ok(done);
    }

    int looks() { return looks; }

    int text() {
        StringBuilder b = new StringBuilder();
        for (int i = 0; i < now.drives.size(); i++) {
            StringBuilder one = new StringBuilder();
            one.append(now.drives.get(i)[3] == 1 ? "+" : "-").append(now.drives.get(i)[0]);
            for (int p = 0; p < now.ploughs.size(); p++) {
                Plough x = now.ploughs.get(p);
                if (x.drives > 0 && x.first + x.drives == i + 1) one.append("ABCDEFGHIJKL".charAt(p));
            }
            if (b.length() + one.length() > 8000) break;
            b.append(one);
        }
        text = b.toString();
        return ok(text.length());
    }

    int sign(int i) { return i < 0 || i >= text.length() ? NONE : text.charAt(i); }

    int digest() {
        List<Integer> all = new ArrayList<>();
        all.add(now.crossings);
        for (Street s : now.streets) for (int w = 0; w < 9; w++) all.add(toldOf(s, w));
        for (Gauge g : now.gauges) {
            all.add(g.crossing);
            all.add(g.missing ? NONE : g.hours());
            for (int h = 0; !g.missing && h < g.hours(); h++) all.add(g.read(h));
        }
        for (Plough p : now.ploughs) for (int w = 0; w < 9; w++) all.add(p.part(w));
        for (int[] d : now.drives) for (int v : d) all.add(v);
        int h = 7;
        for (int v : all) h = 31 * h + v;
        return ok(h);
    }

    int undo() {
        if (before == null) return ok(0);
        now = before;
        before = null;
        return ok(1);
    }

    int findings(int kind) { return kind < 0 || kind > 4 ? BAD : findings[kind]; }

    int status() { return status; }

    int trace() { return trace; }

    int count(int what) {
        return what < 0 || what > 3 ? BAD : new int[] {now.crossings, now.streets.size(), now.gauges.size(), now.ploughs.size()}[what];
    }
}
