/** Promises 20 to 24 and 41: ploughs of all kinds, what they answer, and the trace. */
public final class PloughsTest {
    private static final Check check = new Check("PloughsTest");

    public static void main(String[] args) {
        plough();
        speedAndReach();
        takes();
        passes();
        passesOfPairs();
        refusedAsks();
        pair();
        refusedPairs();
        out();
        salt();
        check.end();
    }

    private static void plough() {
        PloughDepot x = new PloughDepot();
        for (int[] bad : new int[][] {{-1, 5}, {4, 5}, {5, 5}, {0, -1}, {0, 10001}, {Integer.MAX_VALUE, 0}, {0, Integer.MIN_VALUE}}) {
            check.due("plough(" + bad[0] + ", " + bad[1] + ")", x.plough(bad[0], bad[1]), PloughDepot.BAD);
        }
        check.due("status()", x.status(), PloughDepot.BAD);
        for (int i = 0; i < 12; i++) check.due("plough", x.plough(i % 4, i == 0 ? 0 : 10000), i);
        check.due("plough above 12", x.plough(0, 1), PloughDepot.FULL);
        check.due("status()", x.status(), PloughDepot.FULL);
        check.due("plough above 12: BAD is ahead of FULL", x.plough(4, 1), PloughDepot.BAD);
        check.due("count(3)", x.count(3), 12);
        int[] first = {0, 0, 0, 0, 0, 0, 0, 0, 0};
        int[] last = {0, 0, 0, 0, 0, 10000, 3, 0, 0};
        for (int what = 0; what < 9; what++) {
            check.due("part(0, " + what + ")", x.part(0, what), first[what]);
            check.due("part(11, " + what + ")", x.part(11, what), last[what]);
        }
        x.undo();
        check.due("count(3)", x.count(3), 11);
        check.due("part(11, 5)", x.part(11, 5), PloughDepot.BAD);
        check.due("plough(1, 7)", x.plough(1, 7), 11);
        check.due("part(11, 6): a new one", x.part(11, 6), 1);
    }

    /** Ploughs 0 to 3 of kinds 0 to 3. */
    private static void fourKinds(PloughDepot x) {
        for (int kind = 0; kind < 4; kind++) x.plough(kind, 100);
    }

    private static void speedAndReach() {
        PloughDepot x = Towns.of(2, new int[] {0, 1, 1});
        fourKinds(x);
        int[] speed = {50, 30, 45, 20};
        int[] reach = {200, 600, 200, 400};
        for (int p = 0; p < 4; p++) {
            check.due("asks(" + p + ", 0, 0)", x.asks(p, 0, 0), speed[p]);
            check.due("asks(" + p + ", 0, 1)", x.asks(p, 0, 1), reach[p]);
        }
        x.pair(1, 2, 5);
        x.pair(3, 0, 5);
        check.due("asks(4, 0, 0)", x.asks(4, 0, 0), 30);
        check.due("asks(4, 0, 1)", x.asks(4, 0, 1), 800);
        check.due("asks(5, 0, 0)", x.asks(5, 0, 0), 20);
        check.due("asks(5, 0, 1)", x.asks(5, 0, 1), 600);
        check.due("trace(): these have no bodies", x.trace(), 0);
    }

    private static void takes() {
        int[] lengths = {1, 20, 21, 30, 31, 45, 46, 50, 51, 100, 9999, 10000};
        int[] speed = {50, 30, 45, 20};
        int[] more = {0, 0, 2, 1};
        int[] cost = {1, 1, 21, 11};
        PloughDepot x = Towns.of(2);
        for (int length : lengths) x.street(0, 1, length, false);
        fourKinds(x);
        int trace = 0;
        for (int p = 0; p < 4; p++) {
            for (int s = 0; s < lengths.length; s++) {
                int due = (int) Math.ceil((double) lengths[s] / speed[p]) + more[p];
                check.due("asks(" + p + ", " + s + ", 2)", x.asks(p, s, 2), due);
                trace += cost[p];
                check.due("trace()", x.trace(), trace);
            }
        }
        check.due("pair(2, 1, 9)", x.pair(2, 1, 9), 4);
        check.due("asks(4, 0, 2): the salter takes more", x.asks(4, 0, 2), 3);
        trace += 5 + 21 + 1;
        check.due("trace()", x.trace(), trace);
        check.due("asks(4, 11, 2): the blower takes more", x.asks(4, 11, 2), 334);
        trace += 5 + 21 + 1;
        check.due("trace()", x.trace(), trace);
        check.due("pair(0, 3, 9)", x.pair(0, 3, 9), 5);
        check.due("asks(5, 11, 2)", x.asks(5, 11, 2), 501);
        trace += 5 + 1 + 11;
        check.due("trace()", x.trace(), trace);
        x.undo();
        check.due("trace(): undo() takes none back", x.trace(), trace);
    }

    private static void passes() {
        int deep = PloughDepot.DEEP;
        int[][] truck = {{0, 1}, {1, 1}, {200, 1}, {201, 2}, {400, 2}, {401, deep}, {20000, deep}};
        int[][] blower = {{0, 1}, {600, 1}, {601, 3}, {1200, 3}, {1800, 3}, {1801, deep}};
        int[][] tractor = {{0, 1}, {400, 1}, {401, 2}, {800, 2}, {801, deep}};
        asksPasses(0, truck, 100);
        asksPasses(1, blower, 1000);
        asksPasses(2, truck, 100);
        asksPasses(3, tractor, 100);
    }

    private static void asksPasses(int kind, int[][] drifts, int cost) {
        for (int[] d : drifts) {
            PloughDepot x = Towns.drifted(d[0]);
            x.plough(kind, 1);
            check.due("told(0, 0)", x.told(0, 0), d[0]);
            check.due("kind " + kind + " drift " + d[0] + ": asks(0, 0, 3)", x.asks(0, 0, 3), d[1]);
            check.due("status()", x.status(), d[1] == PloughDepot.DEEP ? PloughDepot.DEEP : 0);
            check.due("findings(4)", x.findings(4), d[1] == PloughDepot.DEEP ? 1 : 0);
            check.due("trace()", x.trace(), cost);
        }
    }

    private static void passesOfPairs() {
        int[][] drifts = {{800, 1}, {801, 2}, {1600, 2}, {1601, PloughDepot.DEEP}};
        for (int[] d : drifts) {
            PloughDepot x = Towns.drifted(d[0]);
            x.plough(0, 1);
            x.plough(1, 1);
            x.pair(0, 1, 1);
            check.due("a pair, drift " + d[0] + ": asks(2, 0, 3)", x.asks(2, 0, 3), d[1]);
            check.due("trace()", x.trace(), 10000);
        }
    }

    private static void refusedAsks() {
        PloughDepot x = Towns.of(2, new int[] {0, 1, 1});
        fourKinds(x);
        for (int[] bad : new int[][] {{4, 0, 0}, {-1, 0, 0}, {0, 1, 0}, {0, -1, 0}, {0, 0, -1}, {0, 0, 4}, {0, 1, 1}}) {
            check.due("asks(" + bad[0] + ", " + bad[1] + ", " + bad[2] + ")", x.asks(bad[0], bad[1], bad[2]), PloughDepot.BAD);
        }
        x.out(1);
        for (int what = 0; what < 4; what++) check.due("asks(1, 0, " + what + ") is out", x.asks(1, 0, what), PloughDepot.NULL);
        check.due("status()", x.status(), PloughDepot.NULL);
        check.due("findings(0)", x.findings(0), 4);
        check.due("asks(1, 0, 4): BAD is ahead of NULL", x.asks(1, 0, 4), PloughDepot.BAD);
        check.due("trace()", x.trace(), 0);
    }

    private static void pair() {
        PloughDepot x = Towns.of(2, new int[] {0, 1, 100});
        fourKinds(x);
        x.round();
        x.split();
        check.due("part(0, 1)", x.part(0, 1), 2);
        check.due("pair(3, 0, 10000)", x.pair(3, 0, 10000), 4);
        check.due("part(4, 6)", x.part(4, 6), 4);
        check.due("part(4, 5)", x.part(4, 5), 10000);
        check.due("part(0, 6): out", x.part(0, 6), PloughDepot.NONE);
        check.due("part(3, 6): out", x.part(3, 6), PloughDepot.NONE);
        check.due("part(0, 5): its minutes stay", x.part(0, 5), 100);
        for (int what : new int[] {0, 1, 2, 3, 4, 7, 8}) {
            check.due("part(0, " + what + "): no part", x.part(0, what), 0);
            check.due("part(3, " + what + "): no part", x.part(3, what), 0);
        }
        check.due("undo()", x.undo(), 1);
        check.due("count(3)", x.count(3), 4);
        check.due("part(0, 6)", x.part(0, 6), 0);
        check.due("part(0, 1)", x.part(0, 1), 2);
        check.due("part(3, 0)", x.part(3, 0), 2);
        check.due("pair(0, 1, 0)", x.pair(0, 1, 0), 4);
    }

    private static void refusedPairs() {
        PloughDepot x = Towns.of(2, new int[] {0, 1, 100});
        for (int i = 0; i < 6; i++) x.plough(i % 4, 1);
        for (int[] bad : new int[][] {{0, 0, 1}, {0, 6, 1}, {6, 0, 1}, {-1, 0, 1}, {0, -1, 1}, {0, 1, -1}, {0, 1, 10001}}) {
            check.due("pair(" + bad[0] + ", " + bad[1] + ", " + bad[2] + ")", x.pair(bad[0], bad[1], bad[2]), PloughDepot.BAD);
        }
        x.pair(0, 1, 1);
        x.out(2);
        check.due("pair(6, 3, 1): a pair", x.pair(6, 3, 1), PloughDepot.CAST);
        check.due("pair(3, 6, 1): a pair", x.pair(3, 6, 1), PloughDepot.CAST);
        check.due("pair(2, 3, 1): out", x.pair(2, 3, 1), PloughDepot.NULL);
        check.due("pair(3, 2, 1): out", x.pair(3, 2, 1), PloughDepot.NULL);
        check.due("pair(6, 2, 1): the first is met first", x.pair(6, 2, 1), PloughDepot.CAST);
        check.due("pair(2, 6, 1): the first is met first", x.pair(2, 6, 1), PloughDepot.NULL);
        check.due("findings(0)", x.findings(0), 3);
        check.due("findings(2)", x.findings(2), 3);
        check.due("status()", x.status(), PloughDepot.NULL);
        check.due("part(3, 6): still there", x.part(3, 6), 3);
        x.out(6);
        check.due("pair(6, 3, 1): a pair that is out", x.pair(6, 3, 1), PloughDepot.NULL);
        while (x.count(3) < 12) x.plough(0, 1);
        check.due("pair(3, 4, 1): above 12", x.pair(3, 4, 1), PloughDepot.FULL);
        check.due("pair(6, 4, 1): FULL is ahead of NULL", x.pair(6, 4, 1), PloughDepot.FULL);
        check.due("pair(4, 4, 1): BAD is ahead of FULL", x.pair(4, 4, 1), PloughDepot.BAD);
        check.due("findings(0)", x.findings(0), 4);
    }

    private static void out() {
        PloughDepot x = Towns.of(2, new int[] {0, 1, 100});
        fourKinds(x);
        x.round();
        x.split();
        x.go(0, 1);
        check.due("out(0)", x.out(0), 1);
        check.due("part(0, 6)", x.part(0, 6), PloughDepot.NONE);
        for (int what : new int[] {0, 1, 2, 3, 4, 7, 8}) check.due("part(0, " + what + ")", x.part(0, what), 0);
        check.due("part(0, 5)", x.part(0, 5), 100);
        check.due("undo()", x.undo(), 1);
        check.due("part(0, 6)", x.part(0, 6), 0);
        check.due("part(0, 2)", x.part(0, 2), 1);
        x.out(0);
        check.due("out(0): it was", x.out(0), 0);
        check.due("undo(): that was a change, too", x.undo(), 1);
        check.due("part(0, 6): out ahead of it", x.part(0, 6), PloughDepot.NONE);
        check.due("out(4)", x.out(4), PloughDepot.BAD);
        check.due("out(-1)", x.out(-1), PloughDepot.BAD);
        check.due("status()", x.status(), PloughDepot.BAD);
    }

    private static void salt() {
        PloughDepot x = Towns.drifted(120);
        fourKinds(x);
        check.due("salt(2, 0)", x.salt(2, 0), 70);
        check.due("told(0, 0)", x.told(0, 0), 70);
        check.due("salt(2, 0)", x.salt(2, 0), 20);
        check.due("salt(2, 0): not below 0", x.salt(2, 0), 0);
        check.due("undo()", x.undo(), 1);
        check.due("told(0, 0)", x.told(0, 0), 20);
        for (int p : new int[] {0, 1, 3}) check.due("salt(" + p + ", 0)", x.salt(p, 0), PloughDepot.CAST);
        check.due("status()", x.status(), PloughDepot.CAST);
        check.due("findings(2)", x.findings(2), 3);
        check.due("salt(4, 0)", x.salt(4, 0), PloughDepot.BAD);
        check.due("salt(-1, 0)", x.salt(-1, 0), PloughDepot.BAD);
        check.due("salt(2, 1)", x.salt(2, 1), PloughDepot.BAD);
        check.due("salt(2, -1)", x.salt(2, -1), PloughDepot.BAD);
        x.pair(2, 0, 5);
        check.due("salt(2, 0): out", x.salt(2, 0), PloughDepot.NULL);
        check.due("salt(0, 0): out is met ahead of the kind", x.salt(0, 0), PloughDepot.NULL);
        check.due("salt(4, 0): a pair is no salter", x.salt(4, 0), PloughDepot.CAST);
        check.due("findings(0)", x.findings(0), 2);
        check.due("told(0, 0)", x.told(0, 0), 20);
    }
}
