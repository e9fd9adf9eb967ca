/** The edges of promises 10 to 19, and of GAUGES and SNOW in the terms: each method is a sentence of the document. */
public final class GaugeEdgesTest {
    private static final Check check = new Check("GaugeEdgesTest");
    private static final int BAD = PloughDepot.BAD, FULL = PloughDepot.FULL, NULL = PloughDepot.NULL, INDEX = PloughDepot.INDEX;
    private static final int SIZE = PloughDepot.SIZE, NO = PloughDepot.NO, NONE = PloughDepot.NONE;
    private static final int MIN = Integer.MIN_VALUE, MAX = Integer.MAX_VALUE;
    private static final int FLOATS = 0, SHORTS = 1, MISSING = 2, EMPTY = 3;

    public static void main(String[] args) {
        twentyGauges();
        gaugeStandsAtACrossing();
        newGaugeHasNoRow();
        rowOfZeroToTwoHundred();
        rowIsAllZero();
        loseTellsWhetherItWas();
        readingOfNoGaugeRowOrHour();
        readingOfFloats();
        readingOfShortsWrapsAround();
        noneIsZeroOrOne();
        noneOfNoGaugeRowOrHour();
        readOfNoGaugeRowOrHour();
        readIsHundredThousandAtMost();
        copyOfNoSuchGauges();
        copyOfMissingRows();
        copyOutsideOfRows();
        copyUpToTheEnds();
        copyAsTheyWere();
        copiesUpToTheFirstRefused();
        copiesOfNone();
        snowOfHours();
        snowFindsMissingRowsAndHours();
        snowOfReadingsThatTellNothing();
        snowBelowZeroIsZero();
        snowAtAOrB();
        snowByAnOpenStreet();
        snowOfSeveralGauges();
        snowAsAnInt();
        snowByFloatsInOrder();
        driftIsHundredThousandAtMost();
        guessedKeepsItsDrift();
        meltOfZeroOrMore();
        meltOfWholeParts();
        meltIsHundredThousandAtMost();
        meltNotBelowZero();
        check.end();
    }

    /** A chain 0 - 1 - 2 - 3; gauges of floats (5 hours) and shorts (4) at 0, a missing and an empty one of shorts at 3. */
    private static PloughDepot town() {
        PloughDepot x = Towns.of(4, new int[] {0, 1, 10}, new int[] {1, 2, 20}, new int[] {2, 3, 30});
        x.gauge(0, false);
        x.gauge(0, true);
        x.gauge(3, true);
        x.gauge(3, true);
        x.row(FLOATS, 5);
        x.row(SHORTS, 4);
        x.row(EMPTY, 0);
        for (int hour = 0; hour < 5; hour++) x.reading(FLOATS, hour, 80 + hour * 8);
        for (int hour = 0; hour < 4; hour++) x.reading(SHORTS, hour, 100 + hour);
        return x;
    }

    private static Edges edges() {
        return new Edges(check, GaugeEdgesTest::town, x -> x.sides(1, 2));
    }

    // "GAUGES 0, 1, .. (20)"
    private static void twentyGauges() {
        for (int there = 18; there <= 20; there++) {
            int have = there;
            Edges e = new Edges(check, () -> gauges(have), x -> x.row(have - 1, 3));
            if (there < 20) e.changes("gauge behind " + there, x -> x.gauge(1, true), there);
            else e.refuses("gauge behind " + there, x -> x.gauge(1, true), FULL);
            e.refuses("gauge(2, ..) behind " + there + ": BAD is ahead of FULL", x -> x.gauge(2, true), BAD);
            e.refuses("gauge(-1, ..) behind " + there + ": BAD is ahead of FULL", x -> x.gauge(-1, true), BAD);
            e.tells("read(" + (there - 1) + ", 2)", x -> x.read(have - 1, 2), 0);
            e.refuses("read(" + there + ", 2)", x -> x.read(have, 2), BAD);
            e.changes("lose(" + (there - 1) + ")", x -> x.lose(have - 1), 1);
            e.refuses("lose(" + there + ")", x -> x.lose(have), BAD);
        }
    }

    private static PloughDepot gauges(int n) {
        PloughDepot x = Towns.of(2);
        for (int i = 0; i < n; i++) x.gauge(i % 2, i % 3 == 0);
        return x;
    }

    // "A GAUGE at a CROSSING .. BAD"
    private static void gaugeStandsAtACrossing() {
        Edges e = edges();
        for (int c : new int[] {MIN, -1, 4, 5, 60, MAX}) {
            e.refuses("gauge(" + c + ", true)", x -> x.gauge(c, true), BAD);
            e.refuses("gauge(" + c + ", false)", x -> x.gauge(c, false), BAD);
        }
        for (int c : new int[] {0, 3}) {
            e.changes("gauge(" + c + ", true)", x -> x.gauge(c, true), 4);
            e.changes("gauge(" + c + ", false)", x -> x.gauge(c, false), 4);
        }
    }

    // "its ROW MISSING: its number"
    private static void newGaugeHasNoRow() {
        PloughDepot x = town();
        // the row of another gauge at this number must not stay
        x.gauge(1, false);
        x.undo();
        for (boolean shorts : new boolean[] {false, true}) {
            check.due("gauge(1, " + shorts + ")", x.gauge(1, shorts), 4);
            check.due("read(4, 0)", x.read(4, 0), NULL);
            check.due("lose(4): it was missing", x.lose(4), 0);
            x.row(4, 1);
            check.due("read(4, 0)", x.read(4, 0), 0);
            x = town();
        }
    }

    // "have a ROW of readings for HOURS 0, 1, .. (200 at most)"; "A GAUGE has a ROW of n readings .. BAD: also n above 200; SIZE."
    private static void rowOfZeroToTwoHundred() {
        Edges e = edges();
        for (int n : new int[] {201, 202, 10000, MAX}) e.refuses("row(0, " + n + ")", x -> x.row(FLOATS, n), BAD);
        for (int n : new int[] {-1, -2, -200, MIN}) {
            e.refuses("row(0, " + n + ")", x -> x.row(FLOATS, n), SIZE);
            e.refuses("row(2, " + n + "): it stays missing", x -> x.row(MISSING, n), SIZE);
        }
        for (int n : new int[] {0, 1, 199, 200}) {
            e.changes("row(0, " + n + ")", x -> x.row(FLOATS, n), 1);
            e.changes("row(2, " + n + ")", x -> x.row(MISSING, n), 1);
            PloughDepot x = town();
            x.row(MISSING, n);
            check.due("read(2, " + n + ")", x.read(MISSING, n), INDEX);
            check.due("read(2, " + (n - 1) + ")", x.read(MISSING, n - 1), n == 0 ? INDEX : 0);
            check.due("read(2, 0)", x.read(MISSING, 0), n == 0 ? INDEX : 0);
        }
        for (int gauge : new int[] {MIN, -1, 4, 20, MAX}) {
            for (int n : new int[] {-1, 0, 200, 201}) e.refuses("row(" + gauge + ", " + n + "): BAD is ahead of SIZE", x -> x.row(gauge, n), BAD);
        }
    }

    // "all 0"
    private static void rowIsAllZero() {
        PloughDepot x = town();
        x.none(FLOATS, 1, 0);
        x.none(FLOATS, 2, 1);
        x.row(FLOATS, 2);
        for (int hour = 0; hour < 2; hour++) check.due("read(0, " + hour + ")", x.read(FLOATS, hour), 0);
        check.due("read(0, 2): it is shorter now", x.read(FLOATS, 2), INDEX);
        x.row(FLOATS, 6);
        for (int hour = 0; hour < 6; hour++) check.due("read(0, " + hour + "): nothing of the longer one", x.read(FLOATS, hour), 0);
        check.due("read(0, 6)", x.read(FLOATS, 6), INDEX);
        check.due("read(1, 3): others stay", x.read(SHORTS, 3), 103);
        x.undo();
        check.due("read(0, 1)", x.read(FLOATS, 1), 0);
        check.due("read(0, 2)", x.read(FLOATS, 2), INDEX);
    }

    // "The ROW of a GAUGE is MISSING from now on: 1; 0: it was. A CHANGE. BAD."
    private static void loseTellsWhetherItWas() {
        Edges e = edges();
        e.changes("lose(0)", x -> x.lose(FLOATS), 1);
        e.changes("lose(2): it was", x -> x.lose(MISSING), 0);
        e.changes("lose(3): an empty row is a row", x -> x.lose(EMPTY), 1);
        for (int gauge : new int[] {MIN, -1, 4, 20, MAX}) e.refuses("lose(" + gauge + ")", x -> x.lose(gauge), BAD);
        PloughDepot x = town();
        x.lose(FLOATS);
        check.due("read(0, 0)", x.read(FLOATS, 0), NULL);
        check.due("lose(0) again", x.lose(FLOATS), 0);
        check.due("undo(): of the second one", x.undo(), 1);
        check.due("read(0, 0): still missing", x.read(FLOATS, 0), NULL);
        x.row(FLOATS, 3);
        check.due("read(0, 0): a row of zeros", x.read(FLOATS, 0), 0);
    }

    // "A reading: .. BAD; NULL; INDEX."
    private static void readingOfNoGaugeRowOrHour() {
        Edges e = edges();
        for (int gauge : new int[] {MIN, -1, 4, 20, MAX}) {
            for (int hour : new int[] {-1, 0, 200}) e.refuses("reading(" + gauge + ", " + hour + ", 5)", x -> x.reading(gauge, hour, 5), BAD);
        }
        for (int hour : new int[] {MIN, -1, 0, 1, 199, 200, MAX}) {
            e.refuses("reading(2, " + hour + ", 5): NULL is met ahead of INDEX", x -> x.reading(MISSING, hour, 5), NULL);
            e.refuses("reading(3, " + hour + ", 5)", x -> x.reading(EMPTY, hour, 5), INDEX);
        }
        for (int hour : new int[] {MIN, -1, 5, 6, 199, 200, MAX}) e.refuses("reading(0, " + hour + ", 5)", x -> x.reading(FLOATS, hour, 5), INDEX);
        for (int hour : new int[] {MIN, -1, 4, 5, 200, MAX}) e.refuses("reading(1, " + hour + ", 5)", x -> x.reading(SHORTS, hour, 5), INDEX);
        e.changes("reading(0, 0, 5)", x -> x.reading(FLOATS, 0, 5), 1);
        e.changes("reading(0, 4, 5)", x -> x.reading(FLOATS, 4, 5), 1);
        e.changes("reading(1, 3, 5)", x -> x.reading(SHORTS, 3, 5), 1);
    }

    // "of FLOATS v as a float, divided by 8": "0, if that is below 0"
    private static void readingOfFloats() {
        int[][] due = {{MIN, 0}, {-80, 0}, {-1, 0}, {0, 0}, {1, 1}, {2, 2}, {3, 3}, {4, 5}, {5, 6}, {6, 7}, {7, 8}, {8, 10}, {9, 11}, {80, 100},
            {-32768, 0}, {32767, 40958}, {32768, 40960}, {65535, 81918}, {65536, 81920}};
        for (int[] d : due) {
            PloughDepot x = town();
            check.due("reading(0, 4, " + d[0] + ")", x.reading(FLOATS, 4, d[0]), 1);
            check.due("read(0, 4) of " + d[0], x.read(FLOATS, 4), d[1]);
            check.due("read(0, 3): others stay", x.read(FLOATS, 3), 130);
        }
    }

    // "of SHORTS the lowest 16 bits of v"; "A reading may be NONE (.. of SHORTS: -32768) or ENDLESS (.. 32767)"
    private static void readingOfShortsWrapsAround() {
        int[][] due = {{-32769, NONE}, {-32768, NONE}, {-32767, 0}, {-1, 0}, {0, 0}, {1, 1}, {32765, 32765}, {32766, 32766}, {32767, NONE}, {32768, NONE},
            {32769, 0}, {65534, 0}, {65535, 0}, {65536, 0}, {65537, 1}, {65536 + 32766, 32766}, {65536 + 32767, NONE}, {65536 + 32768, NONE},
            {-65536, 0}, {-65535, 1}, {-32770, 32766}, {MAX, 0}, {MIN, 0}, {MIN + 7, 7}, {MAX - 32768, NONE}};
        for (int[] d : due) {
            PloughDepot x = town();
            check.due("reading(1, 3, " + d[0] + ")", x.reading(SHORTS, 3, d[0]), 1);
            check.due("read(1, 3) of " + d[0], x.read(SHORTS, 3), d[1]);
            check.due("status()", x.status(), 0);
        }
    }

    // "A reading is NONE (0), ENDLESS (1): 1. A CHANGE. BAD"
    private static void noneIsZeroOrOne() {
        Edges e = edges();
        for (int which : new int[] {MIN, -1, 2, 3, MAX}) {
            e.refuses("none(0, 0, " + which + ")", x -> x.none(FLOATS, 0, which), BAD);
            e.refuses("none(2, 0, " + which + "): BAD is ahead of NULL", x -> x.none(MISSING, 0, which), BAD);
            e.refuses("none(0, 9, " + which + "): BAD is ahead of INDEX", x -> x.none(FLOATS, 9, which), BAD);
        }
        for (int gauge : new int[] {FLOATS, SHORTS}) {
            for (int which : new int[] {0, 1}) {
                e.changes("none(" + gauge + ", 3, " + which + ")", x -> x.none(gauge, 3, which), 1);
                PloughDepot x = town();
                x.none(gauge, 3, which);
                check.due("read(" + gauge + ", 3)", x.read(gauge, 3), NONE);
                check.due("status(): to tell nothing is no refusal", x.status(), 0);
                check.due("read(" + gauge + ", 2): others stay", x.read(gauge, 2), gauge == FLOATS ? 120 : 102);
                x.reading(gauge, 3, 0);
                check.due("read(" + gauge + ", 3): a reading again", x.read(gauge, 3), 0);
            }
        }
    }

    // "NULL; INDEX"
    private static void noneOfNoGaugeRowOrHour() {
        Edges e = edges();
        for (int gauge : new int[] {MIN, -1, 4, 20, MAX}) e.refuses("none(" + gauge + ", 0, 0)", x -> x.none(gauge, 0, 0), BAD);
        for (int hour : new int[] {MIN, -1, 0, 200, MAX}) {
            e.refuses("none(2, " + hour + ", 0)", x -> x.none(MISSING, hour, 0), NULL);
            e.refuses("none(3, " + hour + ", 1)", x -> x.none(EMPTY, hour, 1), INDEX);
        }
        for (int hour : new int[] {MIN, -1, 5, 200, MAX}) e.refuses("none(0, " + hour + ", 1)", x -> x.none(FLOATS, hour, 1), INDEX);
        for (int hour : new int[] {MIN, -1, 4, 200, MAX}) e.refuses("none(1, " + hour + ", 0)", x -> x.none(SHORTS, hour, 0), INDEX);
        e.changes("none(0, 0, 0)", x -> x.none(FLOATS, 0, 0), 1);
        e.changes("none(0, 4, 1)", x -> x.none(FLOATS, 4, 1), 1);
    }

    // "x of SNOW .. BAD; NULL; INDEX."
    private static void readOfNoGaugeRowOrHour() {
        Edges e = edges();
        for (int gauge : new int[] {MIN, -1, 4, 20, MAX}) e.refuses("read(" + gauge + ", 0)", x -> x.read(gauge, 0), BAD);
        for (int hour : new int[] {MIN, -1, 0, 200, MAX}) {
            e.refuses("read(2, " + hour + ")", x -> x.read(MISSING, hour), NULL);
            e.refuses("read(3, " + hour + ")", x -> x.read(EMPTY, hour), INDEX);
        }
        for (int hour : new int[] {MIN, -1, 5, 200, MAX}) e.refuses("read(0, " + hour + ")", x -> x.read(FLOATS, hour), INDEX);
        e.tells("read(0, 0)", x -> x.read(FLOATS, 0), 100);
        e.tells("read(0, 4)", x -> x.read(FLOATS, 4), 140);
        e.tells("read(1, 3)", x -> x.read(SHORTS, 3), 103);
    }

    // "times 10 (floats), as an int, 100000 at most"
    private static void readIsHundredThousandAtMost() {
        int[][] due = {{79998, 99997}, {79999, 99998}, {80000, 100000}, {80001, 100000}, {100000, 100000}, {1 << 30, 100000}, {MAX, 100000}};
        for (int[] d : due) {
            PloughDepot x = town();
            x.reading(FLOATS, 0, d[0]);
            check.due("read(0, 0) of " + d[0], x.read(FLOATS, 0), d[1]);
        }
        // a float of 24 bits: not each tenth comes back as it was put
        for (int v = 0; v < 32767; v += 97) {
            PloughDepot x = town();
            x.reading(SHORTS, 0, v);
            check.due("read(1, 0) of " + v, x.read(SHORTS, 0), (int) ((float) v / 10f * 10f));
        }
    }

    // "BAD: no such GAUGES, one of FLOATS and one of SHORTS"
    private static void copyOfNoSuchGauges() {
        Edges e = edges();
        for (int gauge : new int[] {MIN, -1, 4, 20, MAX}) {
            e.refuses("copy(" + gauge + ", 0, 1, 0, 1)", x -> x.copy(gauge, 0, SHORTS, 0, 1), BAD);
            e.refuses("copy(1, 0, " + gauge + ", 0, 1)", x -> x.copy(SHORTS, 0, gauge, 0, 1), BAD);
            e.refuses("copy(2, -1, " + gauge + ", 0, 1): BAD is ahead of NULL", x -> x.copy(MISSING, -1, gauge, 0, 1), BAD);
            e.refuses("copy(" + gauge + ", -1, " + gauge + ", -1, -1)", x -> x.copy(gauge, -1, gauge, -1, -1), BAD);
        }
        e.refuses("copy(0, 0, 1, 0, 1): floats to shorts", x -> x.copy(FLOATS, 0, SHORTS, 0, 1), BAD);
        e.refuses("copy(1, 0, 0, 0, 1): shorts to floats", x -> x.copy(SHORTS, 0, FLOATS, 0, 1), BAD);
        e.refuses("copy(1, 0, 0, 0, 0): not even none", x -> x.copy(SHORTS, 0, FLOATS, 0, 0), BAD);
        e.refuses("copy(0, 0, 2, 0, 1): BAD is ahead of NULL", x -> x.copy(FLOATS, 0, MISSING, 0, 1), BAD);
        e.refuses("copy(2, 0, 0, 0, 1): BAD is ahead of NULL", x -> x.copy(MISSING, 0, FLOATS, 0, 1), BAD);
        e.refuses("copy(0, -1, 1, 9, 1): BAD is ahead of INDEX", x -> x.copy(FLOATS, -1, SHORTS, 9, 1), BAD);
    }

    // "NULL: one is MISSING"
    private static void copyOfMissingRows() {
        Edges e = edges();
        e.refuses("copy(2, 0, 1, 0, 1)", x -> x.copy(MISSING, 0, SHORTS, 0, 1), NULL);
        e.refuses("copy(1, 0, 2, 0, 1)", x -> x.copy(SHORTS, 0, MISSING, 0, 1), NULL);
        e.refuses("copy(2, 0, 2, 0, 0): one finding, though it is both", x -> x.copy(MISSING, 0, MISSING, 0, 0), NULL);
        e.refuses("copy(2, -1, 1, -1, -1): NULL is met ahead of INDEX", x -> x.copy(MISSING, -1, SHORTS, -1, -1), NULL);
        e.refuses("copy(1, 9, 2, 9, 9): NULL is met ahead of INDEX", x -> x.copy(SHORTS, 9, MISSING, 9, 9), NULL);
    }

    // "INDEX: i, j, n are below 0, or one ROW is not so long"
    private static void copyOutsideOfRows() {
        Edges e = edges();
        int[][] outside = {{-1, 0, 1}, {0, -1, 1}, {0, 0, -1}, {-1, -1, -1}, {MIN, 0, 0}, {0, MIN, 0}, {0, 0, MIN}, {0, 0, 5}, {1, 0, 4}, {0, 1, 4}, {3, 0, 2},
            {0, 3, 2}, {4, 0, 1}, {0, 4, 1}, {5, 0, 0}, {0, 5, 0}, {MAX, 0, 0}, {0, MAX, 0}, {0, 0, MAX}, {MAX, MAX, MAX}, {1, 1, MAX}, {MAX, 0, 1}, {MAX, 0, MAX},
            {-1, 0, MAX}, {0, MIN, MAX}, {4, 4, -1}};
        for (int[] o : outside) {
            e.refuses("copy(1, " + o[0] + ", 1, " + o[1] + ", " + o[2] + ")", x -> x.copy(SHORTS, o[0], SHORTS, o[1], o[2]), INDEX);
        }
        e.refuses("copy(1, 0, 3, 0, 1): the other one is empty", x -> x.copy(SHORTS, 0, EMPTY, 0, 1), INDEX);
        e.refuses("copy(3, 0, 1, 0, 1): it is empty", x -> x.copy(EMPTY, 0, SHORTS, 0, 1), INDEX);
        e.refuses("copy(1, 0, 3, 1, 0)", x -> x.copy(SHORTS, 0, EMPTY, 1, 0), INDEX);
    }

    // just inside of that
    private static void copyUpToTheEnds() {
        Edges e = edges();
        for (int[] in : new int[][] {{0, 0, 4}, {0, 0, 0}, {4, 0, 0}, {0, 4, 0}, {4, 4, 0}, {1, 0, 3}, {0, 1, 3}, {3, 0, 1}, {0, 3, 1}, {3, 3, 1}}) {
            e.changes("copy(1, " + in[0] + ", 1, " + in[1] + ", " + in[2] + ")", x -> x.copy(SHORTS, in[0], SHORTS, in[1], in[2]), 1);
        }
        e.changes("copy(3, 0, 1, 4, 0): nothing of an empty row", x -> x.copy(EMPTY, 0, SHORTS, 4, 0), 1);
        e.changes("copy(1, 4, 3, 0, 0): nothing to an empty row", x -> x.copy(SHORTS, 4, EMPTY, 0, 0), 1);
        PloughDepot x = town();
        x.row(EMPTY, 6);
        check.due("copy(1, 0, 3, 2, 4)", x.copy(SHORTS, 0, EMPTY, 2, 4), 1);
        int[] due = {0, 0, 100, 101, 102, 103};
        for (int hour = 0; hour < 6; hour++) check.due("read(3, " + hour + ")", x.read(EMPTY, hour), due[hour]);
        check.due("read(1, 3): the first one stays", x.read(SHORTS, 3), 103);
        PloughDepot y = Towns.of(1);
        y.gauge(0, true);
        y.gauge(0, true);
        y.row(0, 200);
        y.row(1, 200);
        y.reading(0, 0, 5);
        y.reading(0, 199, 6);
        check.due("copy(0, 0, 1, 0, 200): the longest rows", y.copy(0, 0, 1, 0, 200), 1);
        check.due("read(1, 0)", y.read(1, 0), 5);
        check.due("read(1, 199)", y.read(1, 199), 6);
        check.due("copy(0, 0, 1, 0, 201)", y.copy(0, 0, 1, 0, 201), INDEX);
        check.due("copy(0, 1, 1, 0, 200)", y.copy(0, 1, 1, 0, 200), INDEX);
    }

    // "(as they were ahead of it)"
    private static void copyAsTheyWere() {
        PloughDepot x = town();
        x.none(SHORTS, 1, 1);
        check.due("copy(1, 0, 1, 1, 3)", x.copy(SHORTS, 0, SHORTS, 1, 3), 1);
        int[] up = {100, 100, NONE, 102};
        for (int hour = 0; hour < 4; hour++) check.due("read(1, " + hour + ")", x.read(SHORTS, hour), up[hour]);
        check.due("copy(1, 1, 1, 0, 3)", x.copy(SHORTS, 1, SHORTS, 0, 3), 1);
        int[] down = {100, NONE, 102, 102};
        for (int hour = 0; hour < 4; hour++) check.due("read(1, " + hour + ")", x.read(SHORTS, hour), down[hour]);
        check.due("copy(1, 0, 1, 0, 4): where it is", x.copy(SHORTS, 0, SHORTS, 0, 4), 1);
        for (int hour = 0; hour < 4; hour++) check.due("read(1, " + hour + ")", x.read(SHORTS, hour), down[hour]);
    }

    // "up to the first that is refused (a FINDING; STATUS tells why): how many were copied. A CHANGE, if one or more."
    private static void copiesUpToTheFirstRefused() {
        PloughDepot x = town();
        int ahead = x.digest();
        check.due("copies(0, 2, 2): gauge 2 is missing", x.copies(0, 2, 2), 2);
        check.due("status()", x.status(), NULL);
        check.due("findings(0): one", x.findings(0), 1);
        check.due("findings(1): gauge 3 is not asked", x.findings(1), 0);
        check.due("read(0, 3)", x.read(FLOATS, 3), 110);
        check.due("read(1, 3)", x.read(SHORTS, 3), 101);
        check.due("undo()", x.undo(), 1);
        check.due("digest()", x.digest(), ahead);
        check.due("copies(0, 3, 2): gauge 1 is too short by one", x.copies(0, 3, 2), 1);
        check.due("status()", x.status(), INDEX);
        check.due("findings(1)", x.findings(1), 1);
        check.due("read(0, 4)", x.read(FLOATS, 4), 110);
        check.due("read(1, 3): as it was", x.read(SHORTS, 3), 103);
        int first = x.digest();
        check.due("copies(0, 4, 2): gauge 0 is too short by one", x.copies(0, 4, 2), 0);
        check.due("status()", x.status(), INDEX);
        check.due("digest(): as it was", x.digest(), first);
        check.due("undo(): of the one that copied", x.undo(), 1);
        check.due("digest()", x.digest(), ahead);
        check.due("undo()", x.undo(), 0);
        x.row(MISSING, 0);
        check.due("told(0, 9)", x.told(0, 9), BAD);
        check.due("copies(0, 0, 0): all four", x.copies(0, 0, 0), 4);
        check.due("status()", x.status(), 0);
        check.due("copies(0, 0, 1): the empty one is refused", x.copies(0, 0, 1), 2);
        check.due("status()", x.status(), INDEX);
        x.lose(FLOATS);
        check.due("copies(-1, -1, -1): NULL is met ahead of INDEX", x.copies(-1, -1, -1), 0);
        check.due("status()", x.status(), NULL);
        check.due("undo(): of lose()", x.undo(), 1);
        check.due("read(0, 0)", x.read(FLOATS, 0), 100);
    }

    private static void copiesOfNone() {
        int[][] outside = {{-1, 0, 0}, {0, -1, 0}, {0, 0, -1}, {0, 0, 6}, {1, 0, 5}, {0, 1, 5}, {6, 0, 0}, {0, 6, 0}, {MAX, MAX, MAX}, {MIN, MIN, MIN}, {1, 1, MAX}};
        for (int[] o : outside) {
            PloughDepot x = town();
            int ahead = x.digest();
            check.due("copies(" + o[0] + ", " + o[1] + ", " + o[2] + ")", x.copies(o[0], o[1], o[2]), 0);
            check.due("status()", x.status(), INDEX);
            check.due("findings(1)", x.findings(1), 1);
            check.due("digest()", x.digest(), ahead);
            check.due("undo(): of the latest reading()", x.undo(), 1);
            check.due("read(1, 3)", x.read(SHORTS, 3), 0);
        }
        Edges none = new Edges(check, () -> Towns.of(1), x -> x.crossings(1));
        none.tells("copies(0, 0, 1): no gauges", x -> x.copies(0, 0, 1), 0);
        none.tells("copies(-1, -1, -1): no gauges", x -> x.copies(-1, -1, -1), 0);
        PloughDepot x = new PloughDepot();
        check.due("told(0, 0)", x.told(0, 0), BAD);
        check.due("copies(0, 0, 1): no gauges", x.copies(0, 0, 1), 0);
        check.due("status()", x.status(), 0);
    }

    // "SNOW of an HOUR (0 .. 199) .. BAD"
    private static void snowOfHours() {
        Edges e = edges();
        for (int hour : new int[] {MIN, -1, 200, 201, MAX}) e.refuses("snow(" + hour + ")", x -> x.snow(hour), BAD);
        e.changes("snow(0)", x -> x.snow(0), 2, 0, 1, 1);
        e.changes("snow(3)", x -> x.snow(3), 2, 0, 1, 1);
        e.changes("snow(4): the floats alone", x -> x.snow(4), 2, 0, 1, 2);
        e.changes("snow(5): none", x -> x.snow(5), 0, 0, 1, 3);
        e.changes("snow(199)", x -> x.snow(199), 0, 0, 1, 3);
        Edges empty = new Edges(check, () -> Towns.of(1), x -> x.crossings(1));
        empty.changes("snow(0): no streets, no gauges", x -> x.snow(0), 0);
        PloughDepot x = Towns.of(2, new int[] {0, 1, 1});
        x.gauge(0, true);
        x.row(0, 200);
        x.reading(0, 199, 12);
        check.due("snow(199): the last hour", x.snow(199), 1);
        check.due("told(0, 0)", x.told(0, 0), 12);
    }

    // "MISSING: a FINDING NULL; no such HOUR: a FINDING INDEX"; "(whatever FINDINGS come: STATUS is 0)"
    private static void snowFindsMissingRowsAndHours() {
        PloughDepot x = town();
        check.due("told(0, 9)", x.told(0, 9), BAD);
        check.due("snow(4)", x.snow(4), 2);
        check.due("status()", x.status(), 0);
        check.due("findings(0): gauge 2", x.findings(0), 1);
        check.due("findings(1): gauges 1 and 3", x.findings(1), 2);
        x.undo();
        check.due("findings(0): undo() takes none back", x.findings(0), 1);
        check.due("snow(200)", x.snow(200), BAD);
        check.due("findings(0): a refused one reads none", x.findings(0), 1);
        check.due("findings(1): a refused one reads none", x.findings(1), 2);
        x.lose(FLOATS);
        x.lose(SHORTS);
        x.lose(EMPTY);
        check.due("snow(0): all are missing", x.snow(0), 0);
        check.due("findings(0)", x.findings(0), 5);
        check.due("findings(1)", x.findings(1), 2);
        for (int s = 0; s < 3; s++) check.due("told(" + s + ", 1)", x.told(s, 1), 1);
    }

    // "NONE and ENDLESS tell nothing, either"
    private static void snowOfReadingsThatTellNothing() {
        for (int gauge : new int[] {FLOATS, SHORTS}) {
            for (int which : new int[] {0, 1}) {
                PloughDepot x = town();
                x.none(gauge, 0, which);
                check.due("snow(0)", x.snow(0), 2);
                check.due("told(0, 0): by the other one alone", x.told(0, 0), 100);
                x.none(1 - gauge, 0, which);
                check.due("snow(0): none of them", x.snow(0), 0);
                check.due("told(0, 0)", x.told(0, 0), 100);
                check.due("told(0, 1)", x.told(0, 1), 1);
                check.due("findings(0)", x.findings(0), 2);
                check.due("findings(1)", x.findings(1), 2);
            }
        }
        int[][] shorts = {{-32768, 0}, {-32767, 1}, {32766, 1}, {32767, 0}};
        for (int[] s : shorts) {
            PloughDepot x = Towns.of(2, new int[] {0, 1, 1});
            x.gauge(0, true);
            x.row(0, 1);
            x.reading(0, 0, s[0]);
            check.due("snow(0) of " + s[0], x.snow(0), s[1]);
            check.due("told(0, 0) of " + s[0], x.told(0, 0), s[0] == 32766 ? 32766 : 0);
            check.due("told(0, 1) of " + s[0], x.told(0, 1), 1 - s[1]);
        }
    }

    // "0, if that is below 0": it tells 0 then, and weighs as any other one
    private static void snowBelowZeroIsZero() {
        for (int v : new int[] {-1, 0, -8000, MIN}) {
            PloughDepot x = town();
            x.reading(FLOATS, 0, v);
            check.due("snow(0)", x.snow(0), 2);
            check.due("told(0, 0): (0 * 2 + 10 * 2) / 4", x.told(0, 0), 50);
            check.due("told(0, 1)", x.told(0, 1), 0);
        }
        for (int v : new int[] {-1, 0, -32767, 65535}) {
            PloughDepot x = town();
            x.reading(SHORTS, 0, v);
            check.due("snow(0)", x.snow(0), 2);
            check.due("told(1, 0): (10 * 1 + 0 * 1) / 2", x.told(1, 0), 50);
        }
    }

    /** Streets 0 - 1, 1 - 2, 3 - 2 and 3 - 4, a gauge at a crossing that tells 3.0, and one at 4 that is missing. */
    private static PloughDepot snowed(int crossing, int... shut) {
        PloughDepot x = Towns.of(5, new int[] {0, 1, 1}, new int[] {1, 2, 1}, new int[] {3, 2, 1}, new int[] {3, 4, 1});
        x.gauge(crossing, true);
        x.row(0, 1);
        x.reading(0, 0, 30);
        for (int s : shut) x.shut(s, true);
        x.snow(0);
        return x;
    }

    private static void drifts(String what, PloughDepot x, int... due) {
        for (int s = 0; s < due.length; s++) {
            check.due(what + ": told(" + s + ", 0)", x.told(s, 0), due[s]);
            check.due(what + ": told(" + s + ", 1)", x.told(s, 1), due[s] == 0 ? 1 : 0);
        }
    }

    // "k is 2, if it stands at a or b": SHUT or not
    private static void snowAtAOrB() {
        drifts("at 2, all are shut", snowed(2, 0, 1, 2, 3), 0, 30, 30, 0);
        drifts("at 0, all are shut", snowed(0, 0, 1, 2, 3), 30, 0, 0, 0);
        drifts("at 4, all are shut", snowed(4, 0, 1, 2, 3), 0, 0, 0, 30);
    }

    // "else 1, if an OPEN STREET joins its CROSSING and a or b (whatever its way); others are not NEAR"
    private static void snowByAnOpenStreet() {
        drifts("at 0", snowed(0), 30, 30, 0, 0);
        drifts("at 0, 0 is shut", snowed(0, 0), 30, 0, 0, 0);
        drifts("at 0, 1 is shut", snowed(0, 1), 30, 30, 0, 0);
        drifts("at 1", snowed(1), 30, 30, 30, 0);
        drifts("at 2", snowed(2), 30, 30, 30, 30);
        drifts("at 2, 1 is shut", snowed(2, 1), 0, 30, 30, 30);
        drifts("at 2, 2 is shut", snowed(2, 2), 30, 30, 30, 0);
        drifts("at 4", snowed(4), 0, 0, 30, 30);
        for (int way = 0; way < 2; way++) {
            PloughDepot x = Towns.of(4);
            x.street(way, 1 - way, 1, true);
            x.street(1, 2, 1, true);
            x.street(3, 1, 1, true);
            x.street(2, 3, 1, true);
            x.gauge(0, true);
            x.row(0, 1);
            x.reading(0, 0, 30);
            check.due("snow(0): one-way streets", x.snow(0), 3);
            drifts("one-way streets", x, 30, 30, 30, 0);
        }
    }

    // "for each GAUGE that told x, by number, that is NEAR: s becomes s + x * k, w becomes w + k"
    private static void snowOfSeveralGauges() {
        PloughDepot x = Towns.of(4, new int[] {0, 1, 1}, new int[] {1, 2, 1}, new int[] {2, 3, 1});
        int[] at = {0, 1, 2, 3, 3};
        int[] tells = {10, 20, 40, 80, 160};
        for (int g = 0; g < 5; g++) {
            x.gauge(at[g], true);
            x.row(g, 1);
            x.reading(g, 0, tells[g]);
        }
        check.due("snow(0)", x.snow(0), 3);
        // 0 - 1: gauges 0 and 1 stand there, 2 is near; 1 - 2: 1 and 2 stand there, the others are near; 2 - 3: 2, 3, 4, and 1 is near
        check.due("told(0, 0)", x.told(0, 0), (10 * 2 + 20 * 2 + 40) / 5);
        check.due("told(1, 0)", x.told(1, 0), (10 + 20 * 2 + 40 * 2 + 80 + 160) / 7);
        check.due("told(2, 0)", x.told(2, 0), (20 + 40 * 2 + 80 * 2 + 160 * 2) / 7);
    }

    // "(floats; as an int ..)": what is behind the point goes
    private static void snowAsAnInt() {
        int[][] due = {{1, 1}, {2, 2}, {3, 3}, {4, 5}, {5, 6}, {6, 7}, {7, 8}, {8, 10}, {15, 18}};
        for (int[] d : due) {
            PloughDepot x = Towns.of(2, new int[] {0, 1, 1});
            x.gauge(1, false);
            x.row(0, 1);
            x.reading(0, 0, d[0]);
            for (int n = 1; n <= 3; n++) {
                check.due("snow(0)", x.snow(0), 1);
                check.due("told(0, 0): " + n + " times " + d[0], x.told(0, 0), n * d[1]);
            }
        }
    }

    // "s and w, floats": "by number", "(s / w) * 10": other kinds of numbers, another order, or 10 times first would tell others here
    private static void snowByFloatsInOrder() {
        int[][] due = {{204, 188, 195}, {160, 213, 299, 224}, {142, 236, 84, 153}, {84, 236, 142, 154}, {108, 109, 284, 166}, {16443, 25240, 13253, 18311}};
        for (int[] d : due) {
            PloughDepot x = Towns.of(2, new int[] {0, 1, 1});
            for (int g = 0; g < d.length - 1; g++) {
                x.gauge(0, true);
                x.row(g, 1);
                x.reading(g, 0, d[g]);
            }
            check.due("snow(0)", x.snow(0), 1);
            check.due("told(0, 0) of " + java.util.Arrays.toString(d), x.told(0, 0), d[d.length - 1]);
        }
    }

    // "DRIFT becomes (s / w) * 10 more (.. 100000 at most), 100000 at most"
    private static void driftIsHundredThousandAtMost() {
        int[][] due = {{79999, 99998, 100000}, {80000, 100000, 100000}, {80001, 100000, 100000}, {MAX, 100000, 100000}, {40000, 50000, 100000}, {39999, 49998, 99996},
            {40001, 50001, 100000}};
        for (int[] d : due) {
            PloughDepot x = Towns.of(2, new int[] {0, 1, 1});
            x.gauge(0, false);
            x.row(0, 1);
            x.reading(0, 0, d[0]);
            x.snow(0);
            check.due("told(0, 0) of " + d[0], x.told(0, 0), d[1]);
            x.snow(0);
            check.due("told(0, 0) of " + d[0] + " twice", x.told(0, 0), d[2]);
        }
        PloughDepot x = Towns.of(2, new int[] {0, 1, 1});
        for (int g = 0; g < 20; g++) {
            x.gauge(g % 2, false);
            x.row(g, 1);
            x.reading(g, 0, MAX);
        }
        check.due("snow(0): the most of all", x.snow(0), 1);
        check.due("told(0, 0)", x.told(0, 0), 100000);
        x.melt(8, 8);
        check.due("told(0, 0)", x.told(0, 0), 99997);
        for (int tenths = 2; tenths <= 4; tenths++) {
            PloughDepot y = Towns.of(2, new int[] {0, 1, 1});
            y.gauge(0, false);
            y.row(0, 1);
            y.reading(0, 0, MAX);
            y.snow(0);
            y.melt(8, 8);
            y.lose(0);
            Towns.snow(y, tenths);
            check.due("told(0, 0): 99997 and " + tenths, y.told(0, 0), Math.min(100000, 99997 + tenths));
        }
    }

    // "If w is above 0 .. it is not GUESSED; else DRIFT stays, and it is GUESSED."
    private static void guessedKeepsItsDrift() {
        PloughDepot x = town();
        check.due("snow(0)", x.snow(0), 2);
        int[] first = {100, 100, 0};
        for (int s = 0; s < 3; s++) check.due("told(" + s + ", 0)", x.told(s, 0), first[s]);
        for (int s = 0; s < 3; s++) check.due("told(" + s + ", 1)", x.told(s, 1), s == 2 ? 1 : 0);
        check.due("snow(9)", x.snow(9), 0);
        for (int s = 0; s < 3; s++) check.due("told(" + s + ", 0)", x.told(s, 0), first[s]);
        for (int s = 0; s < 3; s++) check.due("told(" + s + ", 1)", x.told(s, 1), 1);
        check.due("snow(1)", x.snow(1), 2);
        for (int s = 0; s < 3; s++) check.due("told(" + s + ", 1): not any more", x.told(s, 1), s == 2 ? 1 : 0);
        check.due("undo()", x.undo(), 1);
        for (int s = 0; s < 3; s++) check.due("told(" + s + ", 1): undone", x.told(s, 1), 1);
    }

    /** As town(), each street with a drift of 12. */
    private static PloughDepot drifted() {
        PloughDepot x = Towns.of(3, new int[] {0, 1, 1}, new int[] {0, 2, 1});
        Towns.snow(x, 12);
        return x;
    }

    // "t and s (0 or more) .. BAD; NO: s is 0"
    private static void meltOfZeroOrMore() {
        Edges e = new Edges(check, GaugeEdgesTest::drifted, x -> x.sides(1, 2));
        for (int[] bad : new int[][] {{-1, 1}, {1, -1}, {-1, -1}, {MIN, 1}, {1, MIN}, {MAX, MIN}, {-1, 0}, {MIN, 0}, {0, -1}}) {
            e.refuses("melt(" + bad[0] + ", " + bad[1] + ")", x -> x.melt(bad[0], bad[1]), BAD);
        }
        for (int t : new int[] {0, 1, MAX}) e.refuses("melt(" + t + ", 0)", x -> x.melt(t, 0), NO);
        e.changes("melt(0, 1)", x -> x.melt(0, 1), 0);
        e.changes("melt(1, 1)", x -> x.melt(1, 1), 1);
        e.changes("melt(0, MAX)", x -> x.melt(0, MAX), 0);
        e.changes("melt(MAX, MAX)", x -> x.melt(MAX, MAX), 1);
    }

    // "how many whole s are in t ((t less the rest of t by s) / s, floats, as an int)"
    private static void meltOfWholeParts() {
        int[][] due = {{6, 7, 0}, {7, 7, 1}, {8, 7, 1}, {13, 7, 1}, {14, 7, 2}, {15, 7, 2}, {1, 2, 0}, {3, 2, 1}, {1, MAX, 0}, {99999, 100000, 0}, {100000, 100000, 1}};
        for (int[] d : due) {
            PloughDepot x = drifted();
            check.due("melt(" + d[0] + ", " + d[1] + ")", x.melt(d[0], d[1]), d[2]);
            check.due("told(0, 0) behind it", x.told(0, 0), 12 - 3 * d[2]);
            check.due("told(1, 0) behind it", x.told(1, 0), 12 - 3 * d[2]);
        }
        // as floats: of 24 bits, so numbers above 16777216 are not all told apart
        int[] greats = {16777215, 16777216, 16777217, 16777219, 33554433, 123456789, 1999999999, MAX - 64, MAX - 63, MAX};
        int[] parts = {1, 3, 7, 1000, 65537, 999983, 16777215, 16777217, 16777219, 50000001, 1999999999, MAX};
        for (int t : greats) {
            for (int s : parts) {
                float whole = (float) t / 8f;
                float part = (float) s / 8f;
                check.due("melt(" + t + ", " + s + ")", drifted().melt(t, s), Math.min(100000, (int) ((whole - whole % part) / part)));
            }
        }
    }

    // "100000 at most"
    private static void meltIsHundredThousandAtMost() {
        int[][] due = {{99999, 1, 99999}, {100000, 1, 100000}, {100001, 1, 100000}, {MAX, 1, 100000}, {200001, 2, 100000}, {199999, 2, 99999}};
        for (int[] d : due) {
            PloughDepot x = drifted();
            check.due("melt(" + d[0] + ", " + d[1] + ")", x.melt(d[0], d[1]), d[2]);
            check.due("told(0, 0)", x.told(0, 0), 0);
        }
    }

    // "each STREET's DRIFT becomes 3 less for each, not below 0"
    private static void meltNotBelowZero() {
        for (int drift = 0; drift < 8; drift++) {
            for (int times = 0; times < 4; times++) {
                PloughDepot x = Towns.drifted(drift);
                check.due("melt", x.melt(times, 1), times);
                check.due("told(0, 0): " + drift + " less 3 times " + times, x.told(0, 0), Math.max(0, drift - 3 * times));
                check.due("told(0, 1): not GUESSED by a thaw", x.told(0, 1), 0);
            }
        }
    }
}
