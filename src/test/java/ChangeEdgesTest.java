/** The edges of promises 37 to 40, and of FINDINGS, refusals and CHANGES in the terms: each method is a sentence of the document. */
public final class ChangeEdgesTest {
    private static final Check check = new Check("ChangeEdgesTest");
    private static final int BAD = PloughDepot.BAD, FULL = PloughDepot.FULL, NULL = PloughDepot.NULL, INDEX = PloughDepot.INDEX, CAST = PloughDepot.CAST;
    private static final int SIZE = PloughDepot.SIZE, NO = PloughDepot.NO, DEEP = PloughDepot.DEEP, NONE = PloughDepot.NONE;
    private static final int MIN = Integer.MIN_VALUE, MAX = Integer.MAX_VALUE;

    public static void main(String[] args) {
        digestOfNothing();
        digestWrapsAround();
        digestTellsMissingRows();
        digestFindsNothing();
        undoOfNothing();
        undoOnce();
        undoOfChangesThatChangeNothing();
        undoOfWhatIsNoChange();
        undoGivesAllAsItWas();
        undoGivesTheRoundAsItWas();
        undoGivesNoFindings();
        changesBehindUndo();
        findingsOfZeroToFour();
        findingsByKind();
        refusalsThatAreNoFindings();
        badAheadOfAll();
        statusOfEachRefusal();
        statusIsZeroBehindWhatIsNotRefused();
        statusIsNotOfThese();
        check.end();
    }

    /** Streets in a ring of 3, one beside; gauges of floats and shorts and a missing one; four kinds, one out; a round that is begun. */
    private static PloughDepot town() {
        PloughDepot x = Towns.of(4, new int[] {0, 1, 50}, new int[] {1, 2, 50}, new int[] {2, 0, 50}, new int[] {0, 3, 50});
        x.sides(3, 0);
        x.gauge(0, false);
        x.gauge(1, true);
        x.gauge(2, true);
        x.row(0, 3);
        x.row(1, 2);
        x.reading(0, 0, 100);
        x.none(0, 1, 1);
        x.reading(1, 1, 250);
        for (int kind = 0; kind < 4; kind++) x.plough(kind, 50 + kind);
        x.plough(0, 7);
        x.out(4);
        x.snow(0);
        x.round();
        x.split();
        x.go(0, 1);
        return x;
    }

    /** What digest() must be, by the calls that it tells of; gauges are their crossings and hours by turns, which no call tells. */
    private static int summedUp(PloughDepot x, int... gauges) {
        int all = 31 * 7 + x.count(0);
        for (int s = 0; s < x.count(1); s++) {
            for (int what = 0; what < 9; what++) all = 31 * all + x.told(s, what);
        }
        for (int g = 0; g < x.count(2); g++) {
            all = 31 * all + gauges[2 * g];
            all = 31 * all + gauges[2 * g + 1];
            for (int hour = 0; hour < gauges[2 * g + 1]; hour++) all = 31 * all + x.read(g, hour);
        }
        for (int p = 0; p < x.count(3); p++) {
            for (int what = 0; what < 9; what++) all = 31 * all + x.part(p, what);
        }
        for (int i = 0; i < x.length(0); i++) {
            for (int what = 0; what < 4; what++) all = 31 * all + x.at(i, what);
        }
        return all;
    }

    // "from 7 on, 31 times and: CROSSINGS"
    private static void digestOfNothing() {
        PloughDepot x = new PloughDepot();
        check.due("digest()", x.digest(), 217);
        x.crossings(20);
        check.due("digest()", x.digest(), 237);
        x.round();
        check.due("digest(): a round of nothing", x.digest(), 237);
        x.undo();
        x.undo();
        x.plough(0, 0);
        check.due("digest(): nine zeros", x.digest(), summedUp(x));
        new Edges(check, ChangeEdgesTest::town, y -> y.crossings(1)).tells("digest()", PloughDepot::digest, summedUpWithOneMore());
    }

    private static int summedUpWithOneMore() {
        PloughDepot x = town();
        x.crossings(1);
        return summedUp(x, 0, 3, 1, 2, 2, NONE);
    }

    // "All as one number": an int, which wraps around
    private static void digestWrapsAround() {
        PloughDepot x = town();
        check.due("digest()", x.digest(), summedUp(x, 0, 3, 1, 2, 2, NONE));
        x.go(0, 2);
        check.due("digest() behind go()", x.digest(), summedUp(x, 0, 3, 1, 2, 2, NONE));
        x.out(1);
        check.due("digest() behind out()", x.digest(), summedUp(x, 0, 3, 1, 2, 2, NONE));
        PloughDepot y = Towns.of(2, new int[] {0, 1, 10000});
        y.gauge(1, false);
        y.row(0, 200);
        y.reading(0, 199, MAX);
        y.reading(0, 0, MIN);
        int due = 31 * 7 + 2;
        for (int v : new int[] {0, 0, 0, 1, 0, 0, 10000, 0, 1, 1, 200, 0}) due = 31 * due + v;
        for (int hour = 1; hour < 199; hour++) due = 31 * due;
        due = 31 * due + 100000;
        check.due("digest(): a long row", y.digest(), due);
    }

    // "how many readings (NONE: MISSING)"
    private static void digestTellsMissingRows() {
        PloughDepot x = Towns.of(2);
        x.gauge(1, true);
        check.due("digest(): missing", x.digest(), (((31 * 7 + 2) * 31) + 1) * 31 - 1);
        x.row(0, 0);
        check.due("digest(): empty", x.digest(), (((31 * 7 + 2) * 31) + 1) * 31);
        x.row(0, 1);
        check.due("digest(): one reading of 0", x.digest(), ((((31 * 7 + 2) * 31) + 1) * 31 + 1) * 31);
        x.none(0, 0, 0);
        check.due("digest(): one that tells nothing", x.digest(), ((((31 * 7 + 2) * 31) + 1) * 31 + 1) * 31 - 1);
        x.lose(0);
        check.due("digest(): missing again", x.digest(), (((31 * 7 + 2) * 31) + 1) * 31 - 1);
    }

    private static void digestFindsNothing() {
        PloughDepot x = town();
        int[] found = new int[5];
        for (int kind = 0; kind < 5; kind++) found[kind] = x.findings(kind);
        int trace = x.trace();
        x.digest();
        for (int kind = 0; kind < 5; kind++) check.due("findings(" + kind + ") behind digest()", x.findings(kind), found[kind]);
        check.due("trace() behind digest()", x.trace(), trace);
        check.due("status() behind digest()", x.status(), 0);
    }

    // "0: there was none since the latest undo(), or ever"
    private static void undoOfNothing() {
        PloughDepot x = new PloughDepot();
        check.due("undo(): none ever", x.undo(), 0);
        check.due("status()", x.status(), 0);
        x.crossings(0);
        x.street(0, 1, 1, true);
        check.due("undo(): refused ones are none", x.undo(), 0);
        check.due("status()", x.status(), 0);
        x.crossings(1);
        check.due("undo()", x.undo(), 1);
        check.due("undo(): none since", x.undo(), 0);
        x.crossings(0);
        check.due("undo(): none since", x.undo(), 0);
        check.due("count(0)", x.count(0), 0);
    }

    // "As it was ahead of the latest CHANGE: 1"
    private static void undoOnce() {
        PloughDepot x = new PloughDepot();
        for (int n = 1; n <= 5; n++) x.crossings(n);
        check.due("undo()", x.undo(), 1);
        check.due("count(0)", x.count(0), 10);
        check.due("undo(): the one before is kept", x.undo(), 0);
        check.due("count(0)", x.count(0), 10);
        x.crossings(1);
        check.due("undo(): of the new one", x.undo(), 1);
        check.due("count(0)", x.count(0), 10);
    }

    // "CHANGES are all calls that tell that they are, and are not refused": whatever they answer
    private static void undoOfChangesThatChangeNothing() {
        Edges e = new Edges(check, ChangeEdgesTest::town, x -> x.crossings(1));
        e.changes("oneWay: as it was", x -> x.oneWay(0, false), 0);
        e.changes("shut: as it was", x -> x.shut(0, false), 0);
        e.changes("sides: as they were", x -> x.sides(1, 1), 1);
        e.changes("lose: it was", x -> x.lose(2), 0);
        e.changes("reading: as it was", x -> x.reading(0, 0, 100), 1);
        e.changes("none: as it was", x -> x.none(0, 1, 1), 1);
        e.changes("copy: none", x -> x.copy(1, 0, 1, 0, 0), 1);
        e.changes("snow: no hour of it", x -> x.snow(199), 0, 0, 1, 2);
        e.changes("melt: nothing", x -> x.melt(0, 1), 0);
        e.changes("out: it was", x -> x.out(4), 0);
        e.changes("salt: no drift", x -> x.salt(2, 0), 0);
        e.changes("round: the same", PloughDepot::round, 3);
        e.changes("split: the same", PloughDepot::split, 1, 3 * 101, 0, 0);
    }

    // the calls that are no CHANGES, and those that are none if they answer 0
    private static void undoOfWhatIsNoChange() {
        Edges e = new Edges(check, () -> {
            PloughDepot x = town();
            x.lose(0);
            x.shut(1, true);
            return x;
        }, x -> x.crossings(1));
        e.tells("told", x -> x.told(0, 6), 50);
        e.tells("way", x -> x.way(0, 2), 50);
        e.tells("wayAt", x -> x.wayAt(0, 2, 0), 2);
        e.tells("read", x -> x.read(1, 1), 250);
        e.tells("asks", x -> x.asks(0, 0, 2), 1, 1);
        e.tells("odd", x -> x.odd(0), 1);
        e.tells("least", x -> x.least(3), 100);
        e.tells("at", x -> x.at(2, 2), 0);
        e.tells("length", x -> x.length(0), 3);
        e.tells("partner", x -> x.partner(0), NONE);
        e.tells("part", x -> x.part(0, 2), 1);
        e.tells("text", PloughDepot::text, 7);
        PloughDepot x = town();
        x.lose(0);
        x.crossings(1);
        check.due("copies(0, 0, 1): the first one is missing", x.copies(0, 0, 1), 0);
        check.due("status()", x.status(), NULL);
        check.due("undo(): of crossings()", x.undo(), 1);
        check.due("count(0)", x.count(0), 4);
        x.shut(1, true);
        check.due("go(0, 2): shut", x.go(0, 2), 0);
        check.due("undo(): of shut()", x.undo(), 1);
        check.due("told(1, 4)", x.told(1, 4), 0);
        x.out(0);
        for (int p = 1; p < 4; p++) x.out(p);
        check.due("split(): not all are taken", x.split(), 0);
        check.due("undo(): of out()", x.undo(), 1);
        check.due("part(3, 6)", x.part(3, 6), 3);
        x.crossings(1);
        check.due("looks()", x.looks(), 2);
        check.due("sign(0)", x.sign(0), NONE);
        check.due("findings(0)", x.findings(0) > 0 ? 1 : 0, 1);
        check.due("trace()", x.trace() > 0 ? 1 : 0, 1);
        check.due("status()", x.status(), 0);
        check.due("count(0)", x.count(0), 5);
        check.due("undo(): of crossings()", x.undo(), 1);
        check.due("count(0)", x.count(0), 4);
    }

    // "undo() gives THE MAP, GAUGES, DRIFTS, PLOUGHS, THE ROUND and PARTS as they were ahead of the latest one"
    private static void undoGivesAllAsItWas() {
        Edges e = new Edges(check, ChangeEdgesTest::town, x -> x.crossings(1));
        e.changes("crossings", x -> x.crossings(20), 25);
        e.changes("street", x -> x.street(3, 4, 9, true), 4);
        e.changes("oneWay", x -> x.oneWay(0, true), 0);
        e.changes("shut", x -> x.shut(2, true), 0);
        e.changes("sides of a cleared one", x -> x.sides(0, 2), 1);
        e.changes("gauge", x -> x.gauge(4, true), 3);
        e.changes("row, shorter", x -> x.row(0, 1), 1);
        e.changes("row, longer", x -> x.row(0, 200), 1);
        e.changes("row of a missing one", x -> x.row(2, 5), 1);
        e.changes("lose", x -> x.lose(0), 1);
        e.changes("reading", x -> x.reading(0, 2, 77), 1);
        e.changes("reading of one that told nothing", x -> x.reading(0, 1, 77), 1);
        e.changes("none", x -> x.none(1, 1, 0), 1);
        e.changes("copy", x -> x.copy(0, 0, 0, 1, 2), 1);
        e.changes("snow", x -> x.snow(1), 4, 0, 1, 0);
        e.changes("melt", x -> x.melt(9, 1), 9);
        e.changes("plough", x -> x.plough(3, 10000), 5);
        e.changes("pair of one that has a part", x -> x.pair(1, 0, 8), 5);
        e.changes("out of one that has a part", x -> x.out(0), 1);
        // (12.5 * 2 + 0 * 1) / 3 centimetres, less 50 tenths
        e.changes("salt", x -> x.salt(2, 2), 33);
        e.changes("round", PloughDepot::round, 3);
        e.changes("split", PloughDepot::split, 1, 3 * 101, 0, 0);
        PloughDepot x = town();
        int ahead = x.digest();
        check.due("copies", x.copies(0, 1, 1), 2);
        check.due("undo()", x.undo(), 1);
        check.due("digest()", x.digest(), ahead);
        check.due("go", x.go(0, 2), 2);
        check.due("undo()", x.undo(), 1);
        check.due("digest()", x.digest(), ahead);
    }

    // THE ROUND: what length() and partner() tell of it, too
    private static void undoGivesTheRoundAsItWas() {
        PloughDepot x = Towns.of(4, new int[] {0, 1, 50}, new int[] {1, 2, 50}, new int[] {2, 3, 50});
        x.sides(0, 0);
        x.round();
        int[] due = {6, 300, 2, 1, 0, 1, 1};
        for (int what = 0; what < 7; what++) check.due("length(" + what + ")", x.length(what), due[what]);
        check.due("partner(1)", x.partner(1), 3);
        x.street(3, 0, 1, true);
        check.due("round()", x.round(), 4);
        check.due("length(6)", x.length(6), 2);
        check.due("length(3)", x.length(3), 0);
        check.due("partner(1)", x.partner(1), NONE);
        check.due("undo()", x.undo(), 1);
        for (int what = 0; what < 7; what++) check.due("length(" + what + ") again", x.length(what), due[what]);
        check.due("partner(1) again", x.partner(1), 3);
        check.due("at(0, 0)", x.at(0, 0), 0);
    }

    // "(not FINDINGS, THE TRACE, looks())"
    private static void undoGivesNoFindings() {
        PloughDepot x = town();
        int[] found = new int[5];
        for (int kind = 0; kind < 5; kind++) found[kind] = x.findings(kind);
        int trace = x.trace();
        int looks = x.looks();
        x.snow(2);
        x.undo();
        check.due("findings(0)", x.findings(0), found[0] + 1);
        check.due("findings(1)", x.findings(1), found[1] + 1);
        x.reading(0, 0, 800);
        x.snow(0);
        x.snow(0);
        x.go(0, 2);
        x.undo();
        check.due("findings(4): two that were too deep", x.findings(4), found[4] + 2);
        check.due("trace()", x.trace(), trace + 2 * 101);
        check.due("looks()", x.looks(), looks + 2);
    }

    // what was undone leaves no mark on what comes in its place
    private static void changesBehindUndo() {
        PloughDepot x = town();
        x.plough(1, 99);
        x.undo();
        check.due("asks(5, 0, 0): it is not there", x.asks(5, 0, 0), BAD);
        check.due("plough", x.plough(3, 12), 5);
        check.due("asks(5, 0, 0): a tractor", x.asks(5, 0, 0), 20);
        x.pair(5, 3, 1);
        x.undo();
        check.due("part(5, 6)", x.part(5, 6), 3);
        check.due("plough", x.plough(0, 1), 6);
        check.due("asks(6, 0, 1): a truck", x.asks(6, 0, 1), 200);
        x.street(0, 1, 1, false);
        check.due("way(0, 1)", x.way(0, 1), 1);
        x.undo();
        check.due("way(0, 1)", x.way(0, 1), 50);
        x.sides(0, 2);
        check.due("odd(0)", x.odd(0), 0);
        x.undo();
        check.due("odd(0)", x.odd(0), NONE);
        x.row(1, 1);
        x.undo();
        check.due("read(1, 1)", x.read(1, 1), 250);
        x.lose(1);
        x.undo();
        check.due("read(1, 1)", x.read(1, 1), 250);
    }

    // "FINDINGS of a KIND (0 .. 4). BAD."
    private static void findingsOfZeroToFour() {
        PloughDepot x = town();
        for (int kind : new int[] {MIN, -1, 5, 6, MAX}) {
            check.due("findings(" + kind + ")", x.findings(kind), BAD);
            check.due("status() behind it", x.status(), 0);
        }
        for (int kind = 0; kind < 5; kind++) {
            check.holds("findings(" + kind + ")", x.findings(kind) >= 0);
            check.due("status() behind it", x.status(), 0);
        }
    }

    private static void found(PloughDepot x, String call, int... due) {
        for (int kind = 0; kind < 5; kind++) check.due("findings(" + kind + ") behind " + call, x.findings(kind), due[kind]);
    }

    // "FINDINGS are counted by KIND: 0 NULL, 1 INDEX, 2 CAST, 3 SIZE, 4 DEEP"
    private static void findingsByKind() {
        PloughDepot x = Towns.drifted(401);
        int gauge = x.gauge(0, false);
        x.plough(0, 1);
        x.plough(2, 1);
        x.out(1);
        found(x, "nothing", 0, 0, 0, 0, 0);
        check.due("read", x.read(gauge, 0), NULL);
        found(x, "read", 1, 0, 0, 0, 0);
        check.due("asks of one that is out", x.asks(1, 0, 0), NULL);
        found(x, "asks", 2, 0, 0, 0, 0);
        x.row(gauge, 1);
        check.due("reading", x.reading(gauge, 1, 1), INDEX);
        found(x, "reading", 2, 1, 0, 0, 0);
        check.due("copies", x.copies(0, 0, 1), 0);
        found(x, "copies", 3, 1, 0, 0, 0);
        check.due("salt", x.salt(0, 0), CAST);
        found(x, "salt", 3, 1, 1, 0, 0);
        check.due("row", x.row(gauge, -1), SIZE);
        found(x, "row", 3, 1, 1, 1, 0);
        check.due("asks", x.asks(0, 0, 3), DEEP);
        found(x, "asks", 3, 1, 1, 1, 1);
        check.due("snow", x.snow(1), 0);
        found(x, "snow", 4, 2, 1, 1, 1);
        for (int n = 0; n < 100; n++) x.row(gauge, -1);
        found(x, "a hundred", 4, 2, 1, 101, 1);
    }

    // BAD, FULL and NO are none
    private static void refusalsThatAreNoFindings() {
        PloughDepot x = new PloughDepot();
        check.due("told", x.told(0, 0), BAD);
        x.crossings(20);
        x.crossings(20);
        check.due("way", x.way(0, 1), NO);
        x.crossings(20);
        check.due("crossings", x.crossings(1), FULL);
        check.due("melt", x.melt(1, 0), NO);
        x.plough(0, 1);
        check.due("go", x.go(0, 1), NO);
        found(x, "BAD, NO, FULL", 0, 0, 0, 0, 0);
    }

    // "Refusals, of several the first here: BAD ..; FULL; then, as a call meets them: NULL .., INDEX .., CAST .., SIZE ..; NO"
    private static void badAheadOfAll() {
        Edges e = new Edges(check, () -> {
            PloughDepot x = town();
            while (x.count(3) < 12) x.plough(0, 1);
            while (x.count(2) < 20) x.gauge(0, true);
            for (int n = 0; n < 2; n++) x.crossings(20);
            x.crossings(15);
            while (x.count(1) < 150) x.street(0, 1, 1, false);
            return x;
        }, x -> x.crossings(1));
        e.refuses("crossings: BAD, FULL", x -> x.crossings(0), BAD);
        e.refuses("crossings: FULL", x -> x.crossings(1), FULL);
        e.refuses("street: BAD, FULL", x -> x.street(0, 60, 1, false), BAD);
        e.refuses("street: FULL", x -> x.street(0, 59, 1, false), FULL);
        e.refuses("gauge: BAD, FULL", x -> x.gauge(60, false), BAD);
        e.refuses("gauge: FULL", x -> x.gauge(59, false), FULL);
        e.refuses("plough: BAD, FULL", x -> x.plough(0, 10001), BAD);
        e.refuses("plough: FULL", x -> x.plough(0, 10000), FULL);
        e.refuses("pair: BAD, FULL, NULL", x -> x.pair(4, 4, 1), BAD);
        e.refuses("pair: FULL, NULL", x -> x.pair(4, 3, 1), FULL);
        e.refuses("row: BAD, SIZE", x -> x.row(20, -1), BAD);
        e.refuses("row: SIZE", x -> x.row(19, -1), SIZE);
        e.refuses("reading: BAD, NULL, INDEX", x -> x.reading(20, -1, 0), BAD);
        e.refuses("reading: NULL, INDEX", x -> x.reading(2, -1, 0), NULL);
        e.refuses("none: BAD, NULL, INDEX", x -> x.none(2, -1, 2), BAD);
        e.refuses("none: NULL, INDEX", x -> x.none(2, -1, 1), NULL);
        e.refuses("copy: BAD, NULL, INDEX", x -> x.copy(0, -1, 2, 0, 0), BAD);
        e.refuses("copy: NULL, INDEX", x -> x.copy(1, -1, 2, 0, 0), NULL);
        e.refuses("copy: INDEX", x -> x.copy(1, -1, 1, 0, 0), INDEX);
        e.refuses("melt: BAD, NO", x -> x.melt(-1, 0), BAD);
        e.refuses("melt: NO", x -> x.melt(0, 0), NO);
        e.refuses("asks: BAD, NULL", x -> x.asks(4, 150, 3), BAD);
        e.refuses("asks: NULL", x -> x.asks(4, 149, 3), NULL);
        e.refuses("salt: BAD, NULL, CAST", x -> x.salt(4, 150), BAD);
        e.refuses("salt: NULL, CAST", x -> x.salt(4, 149), NULL);
        e.refuses("salt: CAST", x -> x.salt(3, 149), CAST);
        e.refuses("go: BAD, NULL, NO", x -> x.go(4, 0), BAD);
        e.refuses("go: NULL, NO", x -> x.go(4, 1), NULL);
        e.refuses("go: NO", x -> x.go(3, 1), NO);
        e.refuses("way: BAD, NO", x -> x.way(58, 60), BAD);
        e.refuses("way: NO", x -> x.way(58, 59), NO);
        e.refuses("wayAt: BAD, NO", x -> x.wayAt(60, 58, 0), BAD);
        e.refuses("wayAt: NO", x -> x.wayAt(59, 58, 0), NO);
    }

    // "STATUS: what the latest call was refused by (BAD to DEEP)"
    private static void statusOfEachRefusal() {
        PloughDepot x = Towns.drifted(401);
        x.plough(0, 1);
        x.plough(1, 1);
        x.out(1);
        check.due("crossings", x.crossings(0), BAD);
        check.due("status()", x.status(), BAD);
        check.due("out", x.asks(1, 0, 0), NULL);
        check.due("status()", x.status(), NULL);
        check.due("row", x.row(0, -1), SIZE);
        check.due("status()", x.status(), SIZE);
        check.due("salt", x.salt(0, 0), CAST);
        check.due("status()", x.status(), CAST);
        check.due("asks", x.asks(0, 0, 3), DEEP);
        check.due("status()", x.status(), DEEP);
        check.due("go", x.go(0, 1), NO);
        check.due("status()", x.status(), NO);
        x.row(0, 0);
        check.due("status()", x.status(), 0);
        check.due("read", x.read(0, 0), INDEX);
        check.due("status()", x.status(), INDEX);
        while (x.count(2) < 20) x.gauge(0, true);
        check.due("status()", x.status(), 0);
        check.due("gauge", x.gauge(0, true), FULL);
        check.due("status()", x.status(), FULL);
        check.due("copies: copied one, and was stopped", x.copies(0, 0, 0), 1);
        check.due("status()", x.status(), NULL);
        check.due("round", x.round(), 2);
        check.due("status()", x.status(), 0);
    }

    // "0: it was not": each call that is not refused, NONE and 0 among what they answer
    private static void statusIsZeroBehindWhatIsNotRefused() {
        Edges.Call[] calls = {x -> x.crossings(1), x -> x.street(0, 1, 1, false), x -> x.oneWay(0, false), x -> x.shut(0, false), x -> x.sides(0, 1),
            x -> x.told(0, 0), x -> x.way(0, 1), x -> x.wayAt(0, 0, 0), x -> x.gauge(0, true), x -> x.row(0, 0), x -> x.lose(2), x -> x.reading(0, 0, 0),
            x -> x.none(0, 0, 0), x -> x.read(0, 1), x -> x.copy(0, 0, 0, 0, 0), x -> x.snow(199), x -> x.melt(0, 1), x -> x.plough(0, 0),
            x -> x.pair(1, 2, 0), x -> x.out(4), x -> x.asks(0, 0, 0), x -> x.asks(0, 0, 1), x -> x.asks(0, 0, 2), x -> x.asks(0, 0, 3), x -> x.salt(2, 0),
            x -> x.odd(-1), x -> x.least(0), PloughDepot::round, x -> x.at(-1, 0), x -> x.length(0), x -> x.partner(0), PloughDepot::split, x -> x.part(4, 6),
            x -> x.go(0, 1), PloughDepot::text, PloughDepot::digest, PloughDepot::undo};
        for (int i = 0; i < calls.length; i++) {
            PloughDepot x = town();
            check.due("told(0, 9)", x.told(0, 9), BAD);
            int answer = calls[i].on(x);
            check.holds("call " + i + " is not refused", answer >= NONE || answer < DEEP);
            check.due("status() behind call " + i, x.status(), 0);
        }
        PloughDepot x = town();
        x.lose(2);
        x.undo();
        check.due("told(0, 9)", x.told(0, 9), BAD);
        check.due("undo(): 0", x.undo(), 0);
        check.due("status()", x.status(), 0);
        x.shut(1, true);
        check.due("told(0, 9)", x.told(0, 9), BAD);
        check.due("go(0, 1): 0", x.go(0, 1), 0);
        check.due("status()", x.status(), 0);
    }

    // "not of status(), findings(), trace(), looks(), sign(), count() themselves"
    private static void statusIsNotOfThese() {
        Edges.Call[] calls = {PloughDepot::status, x -> x.findings(0), x -> x.findings(5), PloughDepot::trace, PloughDepot::looks, x -> x.sign(0), x -> x.sign(-1),
            x -> x.count(0), x -> x.count(4)};
        for (int i = 0; i < calls.length; i++) {
            PloughDepot x = town();
            x.text();
            calls[i].on(x);
            check.due("status() behind call " + i, x.status(), 0);
            for (int why : new int[] {BAD, NULL, NO}) {
                check.due("refused", why == BAD ? x.told(0, 9) : why == NULL ? x.read(2, 0) : x.melt(0, 0), why);
                calls[i].on(x);
                check.due("status() behind a refusal and call " + i, x.status(), why);
            }
        }
    }
}
