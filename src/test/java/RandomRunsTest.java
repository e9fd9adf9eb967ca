import java.util.Random;

/** Runs of calls by fixed seeds, each answer held against SlowDepot's. */
public final class RandomRunsTest {
    private static final Check check = new Check("RandomRunsTest");

    private static final int MOST_CALLS = 512;

    private final Random random;
    private final PloughDepot quick = new PloughDepot();
    private final SlowDepot slow = new SlowDepot();
    private final String run;
    private int calls = 0;

    private RandomRunsTest(String run, long seed) {
        this.run = run + " seed " + seed + " call ";
        random = new Random(seed);
    }

    public static void main(String[] args) {
        for (int seed = 0; seed < 600; seed++) {
            new RandomRunsTest("small", seed).town(2 + seed % 8, 3 + seed % 18, 8, seed % 3 == 0 ? 15 : 0, 1 + seed % 20);
        }
        for (int seed = 0; seed < 120; seed++) {
            new RandomRunsTest("middle", seed).town(10 + seed % 20, 12 + seed % 50, 8, seed % 3 == 0 ? 10 : 0, 12);
        }
        for (int seed = 0; seed < 60; seed++) {
            new RandomRunsTest("large", seed).town(60, 100 + seed % 50, 8, seed % 4 == 0 ? 5 : 0, 10000);
        }
        for (int seed = 0; seed < 40; seed++) {
            new RandomRunsTest("full", seed).fullTown(seed % 2 == 0 ? 0 : 8);
        }
        for (int seed = 0; seed < 6; seed++) {
            new RandomRunsTest("long ways", seed).longWays();
        }
        check.end();
    }

    private void due(String call, int got, int want) {
        calls++;
        check.due(run + calls + ": " + call, got, want);
        if (want < 0 || chance(20)) {
            calls++;
            check.due(run + calls + ": status() behind " + call, quick.status(), slow.status());
        }
        check.holds(run + calls + ": what later calls answer is free", calls <= MOST_CALLS);
    }

    /** Mostly one of 0 .. n - 1, now and then none of them. */
    private int pick(int n) {
        int way = random.nextInt(24);
        if (way > 0 && n > 0) return random.nextInt(n);
        int[] other = {-1, n, n + 1, 1000, Integer.MIN_VALUE, Integer.MAX_VALUE, -2};
        return other[random.nextInt(other.length)];
    }

    private int crossing() { return pick(slow.now.crossings); }

    private int street() { return pick(slow.now.streets.size()); }

    private int gauge() { return pick(slow.now.gauges.size()); }

    private int plough() { return pick(slow.now.ploughs.size()); }

    private boolean chance(int percent) { return random.nextInt(100) < percent; }

    private void town(int crossings, int streets, int calm, int oneWays, int longest) {
        for (int left = crossings; left > 0; left -= 20) {
            int n = Math.min(20, left);
            due("crossings(" + n + ")", quick.crossings(n), slow.crossings(n));
        }
        // most towns can be driven through, so that most rounds can be made
        int joined = chance(85) ? crossings : random.nextInt(crossings) + 1;
        for (int i = 1; i < joined; i++) {
            int to = random.nextInt(i);
            int length = 1 + random.nextInt(longest);
            due("street(" + i + ", " + to + ", " + length + ", false)", quick.street(i, to, length, false), slow.street(i, to, length, false));
        }
        for (int i = 0; i < streets - crossings; i++) {
            newStreet(oneWays, longest);
        }
        for (int i = 0; i < 4; i++) {
            int kind = random.nextInt(4), minutes = i == 3 ? 10000 : 1 + random.nextInt(3 * streets);
            due("plough(" + kind + ", " + minutes + ")", quick.plough(kind, minutes), slow.plough(kind, minutes));
        }
        firstGauges();
        while (calls < MOST_CALLS - 50) {
            if (chance(calm)) {
                mapCall(oneWays, longest);
            } else {
                otherCall();
            }
        }
        due("digest()", quick.digest(), slow.digest());
        for (int kind = -1; kind < 6; kind++) {
            due("findings(" + kind + ")", quick.findings(kind), slow.findings(kind));
        }
    }

    private void firstGauges() {
        for (int g = 0; g < 3; g++) {
            int c = random.nextInt(slow.now.crossings), hours = 4 + random.nextInt(5);
            boolean shorts = chance(40);
            due("gauge(" + c + ", " + shorts + ")", quick.gauge(c, shorts), slow.gauge(c, shorts));
            due("row(" + g + ", " + hours + ")", quick.row(g, hours), slow.row(g, hours));
            for (int h = 0; h < 4; h++) {
                int v = random.nextInt(300);
                due("reading(" + g + ", " + h + ", " + v + ")", quick.reading(g, h, v), slow.reading(g, h, v));
            }
        }
    }

    /** As many of all as there may be, so that one more is refused. */
    private void fullTown(int oneWays) {
        for (int i = 0; i < 3; i++) {
            due("crossings(20)", quick.crossings(20), slow.crossings(20));
        }
        while (slow.now.streets.size() < 150) {
            int i = slow.now.streets.size();
            int a = i < 59 ? i + 1 : random.nextInt(60), b = i < 59 ? random.nextInt(i + 1) : (a + 1 + random.nextInt(59)) % 60;
            int length = chance(10) ? 10000 : 1 + random.nextInt(300);
            boolean oneWay = i >= 59 && chance(oneWays);
            due("street(" + a + ", " + b + ", " + length + ", " + oneWay + ")", quick.street(a, b, length, oneWay), slow.street(a, b, length, oneWay));
        }
        for (int g = 0; g < 20; g++) {
            int c = random.nextInt(60);
            boolean shorts = chance(50);
            due("gauge(" + c + ", " + shorts + ")", quick.gauge(c, shorts), slow.gauge(c, shorts));
            due("row(" + g + ", 200)", quick.row(g, 200), slow.row(g, 200));
        }
        for (int p = 0; p < 12; p++) {
            int kind = p % 4, minutes = p == 11 ? 10000 : random.nextInt(200);
            due("plough(" + kind + ", " + minutes + ")", quick.plough(kind, minutes), slow.plough(kind, minutes));
        }
        while (calls < MOST_CALLS - 50) {
            if (chance(5)) {
                mapCall(oneWays, 10000);
            } else {
                otherCall();
            }
        }
        due("digest()", quick.digest(), slow.digest());
    }

    /** A ring of streets driven one way, and more and more streets beside its first one: up to above 2000 drives. */
    private void longWays() {
        for (int i = 0; i < 3; i++) {
            due("crossings(20)", quick.crossings(20), slow.crossings(20));
        }
        int ring = 40 + random.nextInt(20);
        for (int i = 0; i < ring; i++) {
            int length = 1 + random.nextInt(3);
            due("street", quick.street(i, (i + 1) % ring, length, true), slow.street(i, (i + 1) % ring, length, true));
            int sides = chance(90) ? 0 : 1;
            due("sides", quick.sides(i, sides), slow.sides(i, sides));
        }
        for (int i = 0; i < 50; i++) {
            int a = chance(90) ? 0 : random.nextInt(ring), b = chance(90) ? (a + 1) % ring : random.nextInt(60);
            due("street", quick.street(a, b, 3, true), slow.street(a, b, 3, true));
            due("sides", quick.sides(ring + i, i % 3), slow.sides(ring + i, i % 3));
            due("round()", quick.round(), slow.round());
            due("text()", quick.text(), slow.text());
            due("digest()", quick.digest(), slow.digest());
        }
    }

    private void newStreet(int oneWays, int longest) {
        int a = crossing(), b = crossing();
        int length = chance(3) ? random.nextInt(3) * 10000 : 1 + random.nextInt(longest);
        boolean oneWay = chance(oneWays);
        due("street(" + a + ", " + b + ", " + length + ", " + oneWay + ")", quick.street(a, b, length, oneWay), slow.street(a, b, length, oneWay));
    }

    private void mapCall(int oneWays, int longest) {
        int s = street();
        boolean is = chance(15);
        int n = pick(3);
        switch (random.nextInt(6)) {
            case 0: newStreet(oneWays, longest); break;
            case 1:
                boolean oneWay = chance(oneWays);
                due("oneWay(" + s + ", " + oneWay + ")", quick.oneWay(s, oneWay), slow.oneWay(s, oneWay));
                break;
            case 2: due("shut(" + s + ", " + is + ")", quick.shut(s, is), slow.shut(s, is)); break;
            case 3:
                if (chance(20)) due("crossings(" + n + ")", quick.crossings(n), slow.crossings(n));
                break;
            default: due("sides(" + s + ", " + n + ")", quick.sides(s, n), slow.sides(s, n)); break;
        }
    }

    private void otherCall() {
        int kind = random.nextInt(10);
        if (kind < 3) gaugeCall();
        else if (kind < 5) ploughCall();
        else if (kind < 9) roundCall();
        else anyCall();
    }

    private int reading() {
        int[] some = {0, 1, -1, 32767, -32768, 65535, 32768, Integer.MAX_VALUE, Integer.MIN_VALUE, 100000, 16777217};
        return chance(15) ? some[random.nextInt(some.length)] : chance(50) ? random.nextInt(500) : random.nextInt(9000);
    }

    private void gaugeCall() {
        int g = gauge(), h = pick(8), c = crossing(), n = pick(9), g2 = chance(50) ? g : gauge(), i = pick(6), j = pick(6), v = reading();
        boolean shorts = chance(50);
        switch (random.nextInt(14)) {
            case 0: due("gauge(" + c + ", " + shorts + ")", quick.gauge(c, shorts), slow.gauge(c, shorts)); break;
            case 1: due("row(" + g + ", " + n + ")", quick.row(g, n), slow.row(g, n)); break;
            case 2:
                if (chance(30)) due("lose(" + g + ")", quick.lose(g), slow.lose(g));
                break;
            case 3: due("none", quick.none(g, h, i), slow.none(g, h, i)); break;
            case 4: due("read(" + g + ", " + h + ")", quick.read(g, h), slow.read(g, h)); break;
            case 5: due("copy", quick.copy(g, i, g2, j, n), slow.copy(g, i, g2, j, n)); break;
            case 6: due("copies", quick.copies(i, j, n), slow.copies(i, j, n)); break;
            case 7:
                int t = reading(), s = chance(10) ? reading() : random.nextInt(100);
                if (chance(30)) due("melt(" + t + ", " + s + ")", quick.melt(t, s), slow.melt(t, s));
                break;
            case 8: case 9: due("snow(" + h + ")", quick.snow(h), slow.snow(h)); break;
            default: due("reading(" + g + ", " + h + ", " + v + ")", quick.reading(g, h, v), slow.reading(g, h, v)); break;
        }
    }

    private void ploughCall() {
        int p = plough(), q = plough(), s = street(), what = pick(4), minutes = pick(chance(50) ? 300 : 10001);
        switch (random.nextInt(9)) {
            case 0: case 1: due("plough", quick.plough(what, minutes), slow.plough(what, minutes)); break;
            case 2:
                if (chance(40)) due("pair(" + p + ", " + q + ")", quick.pair(p, q, minutes), slow.pair(p, q, minutes));
                break;
            case 3:
                if (chance(20)) due("out(" + p + ")", quick.out(p), slow.out(p));
                break;
            case 4: due("salt(" + p + ", " + s + ")", quick.salt(p, s), slow.salt(p, s)); break;
            default: due("asks(" + p + ", " + s + ", " + what + ")", quick.asks(p, s, what), slow.asks(p, s, what)); break;
        }
        due("trace()", quick.trace(), slow.trace());
    }

    private int driver() {
        int start = random.nextInt(12);
        for (int k = 0; k < 12 && chance(95); k++) {
            int p = (start + k) % 12;
            if (p < slow.now.ploughs.size() && slow.now.ploughs.get(p).driven < slow.now.ploughs.get(p).drives) return p;
        }
        return plough();
    }

    private void roundCall() {
        int p = plough(), n = 1 + pick(chance(80) ? 5 : 51), what = pick(9), d = driver();
        switch (random.nextInt(12)) {
            case 0: case 1:
                if (slow.now.drives.isEmpty() || chance(30)) {
                    due("round()", quick.round(), slow.round());
                    for (int w = 0; w < 7; w++) due("length(" + w + ")", quick.length(w), slow.length(w));
                    due("digest()", quick.digest(), slow.digest());
                    due("split()", quick.split(), slow.split());
                }
                break;
            case 2: due("split()", quick.split(), slow.split()); break;
            case 3: due("part(" + p + ", " + what + ")", quick.part(p, what), slow.part(p, what)); break;
            case 4: due("length", quick.length(what), slow.length(what)); break;
            case 5:
                due("text()", quick.text(), slow.text());
                int i = pick(slow.text.length());
                due("sign(" + i + ")", quick.sign(i), slow.sign(i));
                break;
            default:
                due("go(" + d + ", " + n + ")", quick.go(d, n), slow.go(d, n));
                due("looks()", quick.looks(), slow.looks());
                due("part(" + d + ", " + what + ")", quick.part(d, what), slow.part(d, what));
                break;
        }
    }

    private void anyCall() {
        int a = crossing(), b = crossing(), i = pick(4), s = street(), d = pick(slow.now.drives.size()), what = pick(9);
        switch (random.nextInt(12)) {
            case 0: due("way(" + a + ", " + b + ")", quick.way(a, b), slow.way(a, b)); break;
            case 1: case 2: due("wayAt(" + a + ", " + b + ", " + i + ")", quick.wayAt(a, b, i), slow.wayAt(a, b, i)); break;
            case 3: due("odd(" + i + ")", quick.odd(i), slow.odd(i)); break;
            case 4: case 5:
                int bits = pick(chance(50) ? 16 : 1 << random.nextInt(15));
                due("least(" + bits + ")", quick.least(bits), slow.least(bits));
                break;
            case 6: due("at(" + d + ", " + what + ")", quick.at(d, what), slow.at(d, what)); break;
            case 7: due("partner(" + a + ")", quick.partner(a), slow.partner(a)); break;
            case 8: due("undo()", quick.undo(), slow.undo()); break;
            case 9: due("count(" + i + ")", quick.count(i), slow.count(i)); break;
            case 10: due("told(" + s + ", " + what + ")", quick.told(s, what), slow.told(s, what)); break;
            default: due("digest()", quick.digest(), slow.digest()); break;
        }
    }
}
