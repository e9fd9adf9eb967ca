/** Promises 37 to 40: the digest, undo() of every change, findings and status. */
public final class ChangesTest {
    private static final Check check = new Check("ChangesTest");
    private static final int CHANGES = 19;
    private static final int REFUSED = 40;

    public static void main(String[] args) {
        digest();
        undoOfEachChange();
        undoOnce();
        refusedChangesNothing();
        othersAreNoChanges();
        undoKeepsCounts();
        findings();
        status();
        check.end();
    }

    private static void digest() {
        PloughDepot x = new PloughDepot();
        int due = 7 * 31;
        check.due("digest(): nothing", x.digest(), due);
        x.crossings(3);
        due = 7 * 31 + 3;
        check.due("digest(): crossings", x.digest(), due);
        x.street(2, 1, 40, true);
        for (int v : new int[] {0, 0, 0, 1, 0, 1, 40, 2, 1}) due = 31 * due + v;
        check.due("digest(): a street", x.digest(), due);
        x.gauge(2, true);
        x.gauge(1, false);
        x.row(1, 3);
        x.reading(1, 1, 12);
        x.none(1, 2, 1);
        for (int v : new int[] {2, -1, 1, 3, 0, 15, -1}) due = 31 * due + v;
        check.due("digest(): gauges", x.digest(), due);
        x.plough(3, 12);
        x.plough(0, 13);
        x.out(0);
        for (int v : new int[] {0, 0, 0, 0, 0, 12, -1, 0, 0, 0, 0, 0, 0, 0, 13, 0, 0, 0}) due = 31 * due + v;
        check.due("digest(): ploughs", x.digest(), due);
        x.street(1, 2, 40, true);
        x.shut(1, true);
        x.street(0, 2, 1, false);
        x.sides(2, 0);
        int without = x.digest();
        x.oneWay(0, false);
        x.oneWay(0, true);
        check.due("digest()", x.digest(), without);
        check.due("round(): no way back", x.round(), PloughDepot.NO);
        x.oneWay(0, false);
        without = x.digest();
        check.due("round()", x.round(), 4);
        due = without;
        for (int v : new int[] {2, 0, 2, 0, 0, 2, 1, 1, 0, 1, 2, 0, 2, 2, 0, 0}) due = 31 * due + v;
        check.due("digest(): drives", x.digest(), due);
        check.due("status()", x.status(), 0);
        check.due("findings(0): digest() reads without findings", x.findings(0), 0);
    }

    /** A town in which every change of change() is taken. */
    private static PloughDepot town() {
        PloughDepot x = Towns.of(4, new int[] {0, 1, 100}, new int[] {1, 2, 100}, new int[] {2, 0, 100});
        x.gauge(0, true);
        x.gauge(1, true);
        x.row(0, 4);
        x.row(1, 4);
        for (int h = 0; h < 4; h++) {
            x.reading(0, h, 60 + h);
            x.reading(1, h, 70 + 3 * h);
        }
        x.snow(0);
        x.plough(0, 100);
        x.plough(2, 100);
        x.plough(3, 100);
        x.round();
        x.split();
        x.go(0, 1);
        return x;
    }

    private static int change(PloughDepot x, int i) {
        switch (i) {
            case 0: return x.crossings(2);
            case 1: return x.street(0, 3, 7, true);
            case 2: return x.oneWay(0, true);
            case 3: return x.shut(1, true);
            case 4: return x.sides(0, 2);
            case 5: return x.gauge(3, false);
            case 6: return x.row(0, 2);
            case 7: return x.lose(0);
            case 8: return x.reading(0, 1, 5);
            case 9: return x.none(1, 1, 0);
            case 10: return x.copy(0, 1, 1, 0, 2);
            case 11: return x.copies(0, 1, 3);
            case 12: return x.snow(1);
            case 13: return x.melt(40, 8);
            case 14: return x.plough(1, 5);
            case 15: return x.pair(0, 2, 50);
            case 16: return x.out(0);
            case 17: return x.salt(1, 1);
            default: return x.go(0, 2);
        }
    }

    private static void undoOfEachChange() {
        for (int i = 0; i < CHANGES; i++) {
            PloughDepot x = town();
            int before = x.digest();
            check.holds("change " + i + " is taken", change(x, i) >= 0);
            check.due("change " + i + ": status()", x.status(), 0);
            check.holds("change " + i + ": another digest()", x.digest() != before);
            check.due("change " + i + ": undo()", x.undo(), 1);
            check.due("change " + i + ": digest()", x.digest(), before);
            check.due("change " + i + ": undo() again", x.undo(), 0);
            check.due("change " + i + ": digest()", x.digest(), before);
            check.holds("change " + i + " is taken again", change(x, i) >= 0);
            check.due("change " + i + ": undo() behind that", x.undo(), 1);
        }
        PloughDepot x = town();
        int before = x.digest();
        x.shut(0, true);
        x.undo();
        check.due("round()", x.round(), 3);
        check.holds("round(): no parts", x.digest() != before);
        check.due("undo()", x.undo(), 1);
        check.due("digest()", x.digest(), before);
        x.split();
        check.due("part(0, 2)", x.part(0, 2), 0);
        check.due("undo()", x.undo(), 1);
        check.due("digest()", x.digest(), before);
    }

    private static void undoOnce() {
        PloughDepot x = new PloughDepot();
        check.due("undo(): nothing yet", x.undo(), 0);
        check.due("status()", x.status(), 0);
        x.crossings(1);
        x.crossings(2);
        check.due("undo()", x.undo(), 1);
        check.due("count(0)", x.count(0), 1);
        check.due("undo(): none since", x.undo(), 0);
        check.due("count(0)", x.count(0), 1);
        x.crossings(5);
        check.due("undo()", x.undo(), 1);
        check.due("count(0)", x.count(0), 1);
        // what was undone leaves no mark on what comes in its place
        x.crossings(1);
        x.street(0, 1, 9, true);
        x.undo();
        check.due("street(1, 0, 3)", x.street(1, 0, 3, false), 0);
        int[] street = {0, 0, 0, 1, 0, 0, 3, 1, 0};
        for (int what = 0; what < 9; what++) check.due("told(0, " + what + ")", x.told(0, what), street[what]);
        x.gauge(0, true);
        x.undo();
        x.gauge(1, false);
        check.due("read(0, 0)", x.read(0, 0), PloughDepot.NULL);
        x.row(0, 2);
        x.reading(0, 1, 16);
        check.due("read(0, 1)", x.read(0, 1), 20);
        x.row(0, 1);
        x.undo();
        check.due("read(0, 1)", x.read(0, 1), 20);
    }

    private static int refused(PloughDepot x, int i) {
        switch (i) {
            case 0: return x.crossings(0);
            case 1: return x.street(0, 0, 1, false);
            case 2: return x.oneWay(9, true);
            case 3: return x.shut(9, true);
            case 4: return x.sides(0, 3);
            case 5: return x.told(0, 9);
            case 6: return x.way(0, 9);
            case 7: return x.wayAt(0, 3, 0);
            case 8: return x.gauge(9, true);
            case 9: return x.row(0, -1);
            case 10: return x.row(0, 201);
            case 11: return x.lose(9);
            case 12: return x.reading(0, 9, 1);
            case 13: return x.reading(2, 0, 1);
            case 14: return x.none(0, 0, 2);
            case 15: return x.read(2, 0);
            case 16: return x.read(0, 9);
            case 17: return x.copy(0, 0, 2, 0, 1);
            case 18: return x.copy(0, 0, 1, 3, 2);
            case 19: return x.snow(200);
            case 20: return x.melt(1, 0);
            case 21: return x.melt(1, -1);
            case 22: return x.plough(4, 1);
            case 23: return x.pair(0, 0, 1);
            case 24: return x.pair(0, 3, 1);
            case 25: return x.pair(0, 5, 1);
            case 26: return x.out(9);
            case 27: return x.asks(3, 0, 0);
            case 28: return x.asks(0, 0, 4);
            case 29: return x.salt(0, 0);
            case 30: return x.salt(3, 0);
            case 31: return x.least(1 << 20);
            case 32: return x.at(0, 4);
            case 33: return x.length(7);
            case 34: return x.partner(9);
            case 35: return x.part(0, 9);
            case 36: return x.go(0, 51);
            case 37: return x.go(3, 1);
            case 38: return x.go(1, 1);
            default: return x.way(0, 3);
        }
    }

    private static void refusedChangesNothing() {
        for (int i = 0; i < REFUSED; i++) {
            PloughDepot x = town();
            x.gauge(0, true);
            x.plough(1, 10);
            x.plough(1, 10);
            x.pair(3, 4, 10);
            x.crossings(1);
            int before = x.digest();
            int why = refused(x, i);
            check.holds("refusal " + i + " is one", why >= PloughDepot.DEEP && why <= PloughDepot.BAD);
            check.due("refusal " + i + ": status()", x.status(), why);
            int found = 0;
            for (int kind = 0; kind < 5; kind++) found += x.findings(kind);
            boolean counts = why <= PloughDepot.NULL && why != PloughDepot.NO;
            check.due("refusal " + i + ": findings", found, counts ? 1 : 0);
            check.due("refusal " + i + ": digest()", x.digest(), before);
            check.due("refusal " + i + ": undo() of the change ahead of it", x.undo(), 1);
            check.due("refusal " + i + ": count(0)", x.count(0), 4);
            check.due("refusal " + i + ": count(3)", x.count(3), 6);
        }
    }

    private static void othersAreNoChanges() {
        PloughDepot x = town();
        x.crossings(1);
        x.told(0, 0);
        x.way(0, 1);
        x.wayAt(0, 1, 0);
        x.read(0, 0);
        x.asks(0, 0, 3);
        x.odd(0);
        x.least(0);
        x.at(0, 0);
        x.length(0);
        x.partner(0);
        x.part(0, 0);
        x.looks();
        x.text();
        x.sign(0);
        x.digest();
        x.findings(0);
        x.status();
        x.trace();
        x.count(0);
        check.due("undo(): of crossings()", x.undo(), 1);
        check.due("count(0)", x.count(0), 4);
    }

    private static void undoKeepsCounts() {
        PloughDepot x = town();
        x.gauge(0, true);
        int trace = x.trace();
        int looks = x.looks();
        x.snow(0);
        x.undo();
        check.due("findings(0): stay", x.findings(0), 1);
        x.go(0, 1);
        check.holds("trace() grew", x.trace() > trace);
        trace = x.trace();
        x.undo();
        check.due("trace(): stays", x.trace(), trace);
        check.due("looks(): stay", x.looks(), looks + 1);
        x.text();
        int sign = x.sign(1);
        x.out(0);
        x.undo();
        check.due("sign(1): stays", x.sign(1), sign);
    }

    private static void findings() {
        PloughDepot x = town();
        x.gauge(0, true);
        int[] due = new int[5];
        x.read(2, 0);
        due[0]++;
        x.read(0, 4);
        x.read(0, -1);
        due[1] += 2;
        x.salt(0, 0);
        x.salt(2, 0);
        x.salt(2, 0);
        due[2] += 3;
        for (int i = 0; i < 4; i++) x.row(0, -1);
        due[3] += 4;
        x.row(0, 1);
        x.reading(0, 0, 20000);
        for (int i = 0; i < 2; i++) x.snow(0);
        due[0] += 2;
        for (int i = 0; i < 5; i++) x.asks(0, 0, 3);
        due[4] += 5;
        for (int kind = 0; kind < 5; kind++) check.due("findings(" + kind + ")", x.findings(kind), due[kind]);
        check.due("status()", x.status(), PloughDepot.DEEP);
        for (int kind : new int[] {-1, 5, Integer.MIN_VALUE, Integer.MAX_VALUE}) {
            check.due("findings(" + kind + ")", x.findings(kind), PloughDepot.BAD);
        }
        check.due("status() is not of findings()", x.status(), PloughDepot.DEEP);
    }

    private static void status() {
        PloughDepot x = town();
        x.told(9, 9);
        check.due("status()", x.status(), PloughDepot.BAD);
        check.due("status() again", x.status(), PloughDepot.BAD);
        x.findings(0);
        x.trace();
        x.looks();
        x.sign(0);
        x.count(0);
        check.due("status(): those leave it", x.status(), PloughDepot.BAD);
        x.told(0, 0);
        check.due("status()", x.status(), 0);
        x.findings(9);
        x.count(9);
        x.sign(-1);
        check.due("status(): not of these", x.status(), 0);
        int[] statusBehind = new int[12];
        x.told(9, 9);
        x.text();
        statusBehind[0] = x.status();
        x.told(9, 9);
        x.digest();
        statusBehind[1] = x.status();
        x.told(9, 9);
        x.undo();
        statusBehind[2] = x.status();
        x.told(9, 9);
        x.undo();
        statusBehind[3] = x.status();
        x.told(9, 9);
        x.odd(-1);
        statusBehind[4] = x.status();
        x.told(9, 9);
        x.at(-1, 0);
        statusBehind[5] = x.status();
        x.told(9, 9);
        x.split();
        statusBehind[6] = x.status();
        x.told(9, 9);
        x.copies(0, 0, 1);
        statusBehind[7] = x.status();
        x.told(9, 9);
        x.round();
        statusBehind[8] = x.status();
        x.told(9, 9);
        x.partner(3);
        statusBehind[9] = x.status();
        x.told(9, 9);
        x.wayAt(0, 0, 0);
        statusBehind[10] = x.status();
        x.told(9, 9);
        x.length(0);
        statusBehind[11] = x.status();
        for (int i = 0; i < statusBehind.length; i++) check.due("status() behind call " + i, statusBehind[i], 0);
    }
}
