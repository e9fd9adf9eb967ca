/** The edges of promises 31 to 36, and of PARTS in the terms: each method is a sentence of the document. */
public final class PartEdgesTest {
    private static final Check check = new Check("PartEdgesTest");
    private static final int BAD = PloughDepot.BAD, NULL = PloughDepot.NULL, NO = PloughDepot.NO, NONE = PloughDepot.NONE;
    private static final int MIN = Integer.MIN_VALUE, MAX = Integer.MAX_VALUE;

    public static void main(String[] args) {
        splitOfNoDrives();
        splitOfNoPloughs();
        splitUpToItsMinutes();
        splitUpToTheFirstTooDeep();
        splitAsksTheNextOneToo();
        splitGivesPartsOfNoDrives();
        splitLeavesThoseThatAreOut();
        splitThatDoesNotTakeAll();
        splitFindsNothing();
        partOfZeroToEight();
        partsAreZeroWithoutOne();
        goOfOneToFifty();
        goOfNoPlough();
        goOfAPartWithoutDrives();
        goUpToTheEndOfItsPart();
        goUpToTheFirstShut();
        goLooksAtShutStreets();
        goThatIsTooDeep();
        goByTheDriftAsItIs();
        clearedIsNotAboveSides();
        driftIsZeroIfAllSidesAreCleared();
        morePassesThanOne();
        moreThanItsMinutes();
        textOfNoDrives();
        textWithLetters();
        signOfTheLatestText();
        check.end();
    }

    /** A ring of n streets of length 50, and a round of n drives, which all clear: a truck takes 1 for each. */
    private static PloughDepot ring(int n) {
        PloughDepot x = Towns.of(n);
        for (int i = 0; i < n; i++) x.street(i, (i + 1) % n, 50, false);
        x.round();
        return x;
    }

    /**
     * A ring of 6, trucks with parts of 2, 0, 4 and 0 drives, one that is out, and one behind split() without a part; the first went 1.
     * A street without sides from 0 to 3 brings each street near a gauge at 0.
     */
    private static PloughDepot begun() {
        PloughDepot x = ring(6);
        x.street(0, 3, 10000, false);
        x.sides(6, 0);
        x.plough(0, 2);
        x.plough(0, 0);
        x.plough(0, 9);
        x.plough(0, 9);
        x.plough(0, 9);
        x.out(4);
        x.split();
        x.plough(0, 9);
        x.go(0, 1);
        return x;
    }

    private static int mark(PloughDepot x) {
        return x.crossings(1);
    }

    private static Edges edges() {
        return new Edges(check, PartEdgesTest::begun, PartEdgesTest::mark);
    }

    private static void partIs(String what, PloughDepot x, int plough, int... due) {
        for (int i = 0; i < due.length; i++) check.due(what + ": part(" + plough + ", " + i + ")", x.part(plough, i), due[i]);
    }

    // "PARTS are given: 1 (a CHANGE)": also where there are no DRIVES
    private static void splitOfNoDrives() {
        new Edges(check, () -> Towns.of(1), PartEdgesTest::mark).changes("split(): no ploughs, no drives", PloughDepot::split, 1);
        PloughDepot x = Towns.of(2, new int[] {0, 1, 50});
        x.plough(0, 0);
        check.due("split(): no round yet", x.split(), 1);
        partIs("no round yet", x, 0, 0, 0, 0, 0, 0, 0, 0, 0, 0);
        check.due("go(0, 1)", x.go(0, 1), NO);
        check.due("trace(): none is asked", x.trace(), 0);
        x.shut(0, true);
        x.round();
        check.due("split(): a round of nothing", x.split(), 1);
        x.out(0);
        check.due("split(): all are out", x.split(), 1);
    }

    // "0: not all DRIVES are taken"
    private static void splitOfNoPloughs() {
        new Edges(check, () -> ring(2), PartEdgesTest::mark).tells("split(): no ploughs", PloughDepot::split, 0);
        Edges out = new Edges(check, () -> {
            PloughDepot x = ring(2);
            x.plough(0, 100);
            x.out(0);
            return x;
        }, PartEdgesTest::mark);
        out.tells("split(): all are out", PloughDepot::split, 0);
    }

    // "up to the first .. with which its DRIVES would have more than its MINUTES"
    private static void splitUpToItsMinutes() {
        for (int minutes = 0; minutes <= 5; minutes++) {
            PloughDepot x = ring(4);
            x.plough(0, minutes);
            int due = minutes >= 4 ? 1 : 0;
            check.due("split() by " + minutes, x.split(), due);
            check.due("part(0, 1) by " + minutes, x.part(0, 1), due * 4);
            check.due("part(0, 4) by " + minutes, x.part(0, 4), due * 4);
            check.due("trace() by " + minutes, x.trace(), Math.min(4, minutes + 1) * 101);
            x.plough(0, 10000);
            check.due("split() by " + minutes + " and many", x.split(), 1);
            partIs("the first, by " + minutes, x, 0, 0, Math.min(4, minutes), 0, 0, Math.min(4, minutes), minutes, 0, 0, 0);
            partIs("the second, behind " + minutes, x, 1, Math.min(4, minutes), 4 - Math.min(4, minutes), 0, 0, 4 - Math.min(4, minutes), 10000, 0, 0, 0);
        }
        // 3 for each of two sides and both passes, 12 in all: 11 are not enough
        for (int minutes = 11; minutes <= 12; minutes++) {
            PloughDepot x = Towns.of(2, new int[] {0, 1, 101});
            Towns.snow(x, 201);
            x.sides(0, 2);
            x.round();
            x.plough(0, minutes);
            check.due("split() of 12 by " + minutes, x.split(), minutes - 11);
        }
    }

    // "up to the first that is TOO DEEP for it"
    private static void splitUpToTheFirstTooDeep() {
        for (int drift : new int[] {400, 401}) {
            PloughDepot x = ring(3);
            x.plough(0, 10000);
            x.plough(1, 10000);
            Towns.snow(x, drift);
            check.due("split()", x.split(), 1);
            check.due("part(0, 1) of " + drift, x.part(0, 1), drift == 400 ? 3 : 0);
            check.due("part(1, 0) of " + drift, x.part(1, 0), drift == 400 ? 3 : 0);
            check.due("part(1, 1) of " + drift, x.part(1, 1), drift == 400 ? 0 : 3);
        }
        // only the second street is too deep: the truck takes one, and does not come back behind it
        PloughDepot x = Towns.of(4, new int[] {0, 1, 50}, new int[] {1, 2, 50}, new int[] {2, 3, 50}, new int[] {3, 0, 50});
        x.sides(1, 0);
        Towns.snow(x, 401);
        x.plough(2, 1);
        for (int n = 0; n < 9; n++) {
            x.salt(0, 0);
            x.salt(0, 2);
            x.salt(0, 3);
        }
        x.out(0);
        x.sides(1, 1);
        x.round();
        x.plough(0, 100);
        x.plough(3, 100);
        check.due("split()", x.split(), 1);
        partIs("a truck", x, 1, 0, 1, 0, 0, 1, 100);
        partIs("a tractor", x, 2, 1, 3, 0, 0, 4 * 2 + 4 + 4, 100);
    }

    // "(that DRIVE is asked of the next one, too)"
    private static void splitAsksTheNextOneToo() {
        PloughDepot x = ring(4);
        x.plough(0, 1);
        x.plough(1, 2);
        x.plough(2, 3);
        x.plough(3, 4);
        check.due("split(): three of four", x.split(), 0);
        // a truck takes 1 for a drive, a blower 2, a salter and a tractor 4; who takes one is asked for two
        check.due("trace()", x.trace(), 2 * 101 + 2 * 1001 + 121 + 2 * 111);
        check.due("part(1, 1): none has a part", x.part(1, 1), 0);
        x.plough(2, 4);
        check.due("split()", x.split(), 1);
        int[] first = {0, 1, 2, 2, 3};
        int[] drives = {1, 1, 0, 1, 1};
        int[] minutes = {1, 2, 0, 4, 4};
        for (int p = 0; p < 5; p++) partIs("each", x, p, first[p], drives[p], 0, 0, minutes[p]);
    }

    // "who takes none has a PART of no DRIVES there"
    private static void splitGivesPartsOfNoDrives() {
        PloughDepot x = begun();
        partIs("the first", x, 0, 0, 2, 1, 1, 2, 2, 0, 0, 0);
        partIs("no minutes", x, 1, 2, 0, 0, 0, 0, 0, 0, 0, 0);
        partIs("the rest", x, 2, 2, 4, 0, 0, 4, 9, 0, 0, 0);
        partIs("behind the last drive", x, 3, 6, 0, 0, 0, 0, 9, 0, 0, 0);
        check.due("go(1, 1)", x.go(1, 1), NO);
        check.due("go(3, 1)", x.go(3, 1), NO);
    }

    // "with the PLOUGHS that are not OUT"
    private static void splitLeavesThoseThatAreOut() {
        PloughDepot x = begun();
        partIs("out", x, 4, 0, 0, 0, 0, 0, 9, NONE, 0, 0);
        x.out(0);
        x.out(2);
        check.due("split()", x.split(), 1);
        partIs("out", x, 0, 0, 0, 0, 0, 0, 2, NONE, 0, 0);
        partIs("no minutes", x, 1, 0, 0, 0, 0, 0, 0, 0, 0, 0);
        partIs("all", x, 3, 0, 6, 0, 0, 6, 9, 0, 0, 0);
        partIs("behind it", x, 5, 6, 0, 0, 0, 0, 9, 0, 0, 0);
    }

    // "0: not all DRIVES are taken (PARTS stay as they were)"
    private static void splitThatDoesNotTakeAll() {
        Edges e = new Edges(check, () -> {
            PloughDepot x = begun();
            Towns.snow(x, 401);
            return x;
        }, PartEdgesTest::mark);
        // five trucks are asked for the first drive, which is too deep
        e.tells("split(): too deep", PloughDepot::split, 0, 5 * 100);
        PloughDepot x = begun();
        Towns.snow(x, 401);
        check.due("split()", x.split(), 0);
        check.due("status()", x.status(), 0);
        partIs("as it was", x, 0, 0, 2, 1, 1, 2, 2, 0, 0, 0);
        partIs("as it was", x, 2, 2, 4, 0, 0, 4, 9, 0, 0, 0);
        check.due("go(0, 9): the part goes on", x.go(0, 9), 1);
    }

    // "4 DEEP (TOO DEEP in asks(), go(), not in split())"
    private static void splitFindsNothing() {
        PloughDepot x = begun();
        Towns.snow(x, 401);
        x.split();
        check.due("findings(4): not in split()", x.findings(4), 0);
        x.asks(0, 0, 3);
        check.due("findings(4): in asks()", x.findings(4), 1);
        x.go(0, 1);
        check.due("findings(4): in go()", x.findings(4), 2);
        x.go(2, 2);
        check.due("findings(4): one for each drive", x.findings(4), 4);
    }

    // "Of a PLOUGH: 0 the first DRIVE of its PART, .. 8 .. BAD."
    private static void partOfZeroToEight() {
        Edges e = edges();
        for (int what : new int[] {MIN, -1, 9, 10, MAX}) {
            e.refuses("part(0, " + what + ")", x -> x.part(0, what), BAD);
            e.refuses("part(4, " + what + ")", x -> x.part(4, what), BAD);
        }
        for (int p : new int[] {MIN, -1, 6, 12, MAX}) {
            for (int what : new int[] {0, 5, 6, 8}) e.refuses("part(" + p + ", " + what + ")", x -> x.part(p, what), BAD);
        }
        int[] first = {0, 2, 1, 1, 2, 2, 0, 0, 0};
        int[] out = {0, 0, 0, 0, 0, 9, NONE, 0, 0};
        for (int what = 0; what < 9; what++) {
            int asked = what;
            e.tells("part(0, " + what + ")", x -> x.part(0, asked), first[asked]);
            e.tells("part(4, " + what + "): out", x -> x.part(4, asked), out[asked]);
        }
    }

    // "(0 to 4, 7, 8 are 0 without a PART.)"
    private static void partsAreZeroWithoutOne() {
        PloughDepot x = begun();
        partIs("behind split()", x, 5, 0, 0, 0, 0, 0, 9, 0, 0, 0);
        Towns.snow(x, 201);
        x.go(2, 4);
        partIs("all numbers", x, 2, 2, 4, 4, 8, 4, 9, 0, 4, 0);
        x.out(2);
        partIs("out", x, 2, 0, 0, 0, 0, 0, 9, NONE, 0, 0);
        x.undo();
        partIs("undone", x, 2, 2, 4, 4, 8, 4, 9, 0, 4, 0);
        x.pair(2, 0, 1);
        partIs("of a pair", x, 2, 0, 0, 0, 0, 0, 9, NONE, 0, 0);
        partIs("of a pair", x, 0, 0, 0, 0, 0, 0, 2, NONE, 0, 0);
        x.undo();
        x.round();
        partIs("another round", x, 2, 0, 0, 0, 0, 0, 9, 0, 0, 0);
    }

    // "A PLOUGH drives the next n (1 .. 50) DRIVES of its PART .. BAD"
    private static void goOfOneToFifty() {
        Edges e = edges();
        for (int n : new int[] {MIN, -1, 0, 51, 52, MAX}) {
            e.refuses("go(2, " + n + ")", x -> x.go(2, n), BAD);
            e.refuses("go(4, " + n + "): BAD is ahead of NULL", x -> x.go(4, n), BAD);
            e.refuses("go(1, " + n + "): BAD is ahead of NO", x -> x.go(1, n), BAD);
        }
        for (int n : new int[] {1, 2, 49, 50}) {
            PloughDepot x = ring(60);
            x.plough(0, 100);
            x.split();
            int ahead = x.digest();
            check.due("go(0, " + n + ") of 60", x.go(0, n), n);
            check.due("part(0, 2)", x.part(0, 2), n);
            check.due("told: the last that was driven", x.told(n - 1, 2), 1);
            check.due("told: the next one", x.told(n, 2), 0);
            check.due("looks()", x.looks(), n);
            check.due("undo()", x.undo(), 1);
            check.due("digest()", x.digest(), ahead);
            check.due("looks(): undo() takes none back", x.looks(), n);
        }
    }

    // "BAD; NULL"
    private static void goOfNoPlough() {
        Edges e = edges();
        for (int p : new int[] {MIN, -1, 6, 12, MAX}) {
            for (int n : new int[] {1, 50}) e.refuses("go(" + p + ", " + n + ")", x -> x.go(p, n), BAD);
        }
        e.refuses("go(4, 1): out", x -> x.go(4, 1), NULL);
        e.refuses("go(4, 50): out", x -> x.go(4, 50), NULL);
        Edges paired = new Edges(check, () -> {
            PloughDepot x = begun();
            x.pair(0, 2, 9);
            return x;
        }, PartEdgesTest::mark);
        paired.refuses("go(0, 1): out, as one of a pair", x -> x.go(0, 1), NULL);
        paired.refuses("go(6, 1): a pair without a part", x -> x.go(6, 1), NO);
    }

    // "NO: its PART has no DRIVE left"
    private static void goOfAPartWithoutDrives() {
        Edges e = edges();
        e.refuses("go(1, 1): a part of no drives", x -> x.go(1, 1), NO);
        e.refuses("go(3, 50): a part of no drives", x -> x.go(3, 50), NO);
        e.refuses("go(5, 1): no part", x -> x.go(5, 1), NO);
        PloughDepot x = begun();
        check.due("go(0, 1): one is left", x.go(0, 1), 1);
        check.due("go(0, 1): none is left", x.go(0, 1), NO);
        check.due("status()", x.status(), NO);
        check.due("looks(): it looked at none", x.looks(), 2);
        check.due("undo(): of the go() that drove", x.undo(), 1);
        check.due("go(0, 50)", x.go(0, 50), 1);
    }

    private static void goUpToTheEndOfItsPart() {
        for (int n = 1; n <= 6; n++) {
            PloughDepot x = begun();
            check.due("go(2, " + n + ")", x.go(2, n), Math.min(4, n));
            check.due("part(2, 2)", x.part(2, 2), Math.min(4, n));
            check.due("part(2, 3)", x.part(2, 3), Math.min(4, n));
            check.due("told(1, 2): of the first one's part", x.told(1, 2), 0);
            check.due("looks()", x.looks(), 1 + Math.min(4, n));
        }
    }

    // "up to the first whose STREET is SHUT now: how many .. A CHANGE, if one or more; 0, if the first one's STREET is SHUT"
    private static void goUpToTheFirstShut() {
        for (int shut = 2; shut < 6; shut++) {
            PloughDepot x = begun();
            x.shut(shut, true);
            int ahead = x.digest();
            int due = shut - 2;
            check.due("go(2, 50), " + shut + " is shut", x.go(2, 50), due);
            check.due("status()", x.status(), 0);
            check.due("part(2, 2)", x.part(2, 2), due);
            check.due("told: not the shut one", x.told(shut, 2), 0);
            check.due("go(2, 50) again", x.go(2, 50), 0);
            check.due("status() again", x.status(), 0);
            check.due("undo()", x.undo(), 1);
            if (due > 0) check.due("digest(): that go() is undone", x.digest(), ahead);
            else check.due("told: 0 was no change, so shut() is undone", x.told(shut, 4), 0);
        }
        // a street that is shut behind the n-th is no matter
        PloughDepot x = begun();
        x.shut(4, true);
        check.due("go(2, 2)", x.go(2, 2), 2);
        check.due("looks()", x.looks(), 3);
        x.shut(4, false);
        check.due("go(2, 2): open again", x.go(2, 2), 2);
        // an EMPTY one along a shut street
        PloughDepot y = Towns.of(2, new int[] {0, 1, 50});
        y.plough(0, 9);
        y.round();
        y.split();
        y.go(0, 1);
        y.shut(0, true);
        check.due("go(0, 1): the empty one back", y.go(0, 1), 0);
        check.due("part(0, 2)", y.part(0, 2), 1);
    }

    // "How many DRIVES go() looked at (driven, or SHUT) ever"
    private static void goLooksAtShutStreets() {
        PloughDepot x = begun();
        check.due("looks()", x.looks(), 1);
        x.shut(2, true);
        check.due("go(2, 3)", x.go(2, 3), 0);
        check.due("looks(): one that is shut", x.looks(), 2);
        check.due("go(2, 3)", x.go(2, 3), 0);
        check.due("looks(): once more", x.looks(), 3);
        x.shut(2, false);
        x.shut(4, true);
        check.due("go(2, 50)", x.go(2, 50), 2);
        check.due("looks(): two and one that is shut", x.looks(), 6);
        x.undo();
        check.due("looks(): undo() takes none back", x.looks(), 6);
        check.due("go(2, 0)", x.go(2, 0), BAD);
        check.due("go(1, 1)", x.go(1, 1), NO);
        check.due("go(4, 1)", x.go(4, 1), NULL);
        check.due("looks(): refused ones look at none", x.looks(), 6);
        check.due("status(): not of looks()", x.status(), NULL);
    }

    // "TOO DEEP: a FINDING DEEP, and it is driven as an EMPTY one"
    private static void goThatIsTooDeep() {
        for (int drift : new int[] {400, 401}) {
            PloughDepot x = begun();
            Towns.snow(x, drift);
            int trace = x.trace();
            boolean deep = drift > 400;
            check.due("go(2, 1) of " + drift, x.go(2, 1), 1);
            check.due("status()", x.status(), 0);
            check.due("findings(4)", x.findings(4), deep ? 1 : 0);
            check.due("told(2, 2)", x.told(2, 2), deep ? 0 : 1);
            check.due("told(2, 0)", x.told(2, 0), deep ? drift : 0);
            check.due("trace(): PASSES, then TAKES", x.trace() - trace, 101);
            partIs("of " + drift, x, 2, 2, 4, 1, deep ? 1 : 2, 4, 9, 0, deep ? 0 : 1, 0);
            check.due("undo(): it was a change", x.undo(), 1);
            check.due("part(2, 2)", x.part(2, 2), 0);
            check.due("findings(4): undo() takes none back", x.findings(4), deep ? 1 : 0);
        }
    }

    // "One that CLEARS asks MINUTES by DRIFT as it is"
    private static void goByTheDriftAsItIs() {
        PloughDepot x = begun();
        Towns.snow(x, 200);
        x.go(2, 1);
        partIs("just in reach", x, 2, 2, 4, 1, 1, 4, 9, 0, 0, 0);
        x.undo();
        Towns.snow(x, 1);
        x.go(2, 1);
        partIs("just out of reach", x, 2, 2, 4, 1, 2, 4, 9, 0, 1, 0);
        check.due("part(2, 4): what split() found stays", x.part(2, 4), 4);
        // an EMPTY one asks no PASSES, however deep it is
        PloughDepot y = Towns.of(2, new int[] {0, 1, 50});
        y.plough(0, 9);
        y.round();
        y.split();
        y.go(0, 1);
        Towns.snow(y, 401);
        int trace = y.trace();
        check.due("go(0, 1): empty", y.go(0, 1), 1);
        check.due("trace()", y.trace() - trace, 1);
        partIs("one that clears, one that is empty", y, 0, 0, 2, 2, 2, 2, 9, 0, 0, 0);
        check.due("findings(4)", y.findings(4), 0);
        check.due("told(0, 0)", y.told(0, 0), 401);
        check.due("told(0, 2)", y.told(0, 2), 1);
    }

    // "CLEARED becomes 1 more, if it is below SIDES"
    private static void clearedIsNotAboveSides() {
        for (int sides = 0; sides < 3; sides++) {
            PloughDepot x = Towns.of(2, new int[] {0, 1, 50});
            x.sides(0, 2);
            x.plough(0, 9);
            x.round();
            x.split();
            x.sides(0, sides);
            check.due("go(0, 1)", x.go(0, 1), 1);
            check.due("told(0, 2) of " + sides, x.told(0, 2), Math.min(1, sides));
            check.due("go(0, 1)", x.go(0, 1), 1);
            check.due("told(0, 2) of " + sides + ", twice", x.told(0, 2), sides);
            x.split();
            check.due("go(0, 2)", x.go(0, 2), 2);
            check.due("told(0, 2) of " + sides + ", four times", x.told(0, 2), sides);
            check.due("part(0, 2)", x.part(0, 2), 2);
        }
    }

    // "and DRIFT is 0, if it is SIDES or more then"
    private static void driftIsZeroIfAllSidesAreCleared() {
        for (int sides = 0; sides < 3; sides++) {
            PloughDepot x = Towns.drifted(150);
            x.sides(0, 2);
            x.plough(0, 1000);
            x.round();
            x.split();
            x.sides(0, sides);
            x.go(0, 1);
            check.due("told(0, 0) of " + sides, x.told(0, 0), sides < 2 ? 0 : 150);
            x.go(0, 1);
            check.due("told(0, 0) of " + sides + ", twice", x.told(0, 0), 0);
            Towns.snow(x, 70);
            check.due("told(0, 0)", x.told(0, 0), 70);
            x.split();
            x.go(0, 1);
            check.due("told(0, 0) of " + sides + ": CLEARED is SIDES already", x.told(0, 0), 0);
        }
    }

    // part() 7: "DRIVES that CLEARED by more PASSES than one"
    private static void morePassesThanOne() {
        int[][] due = {{0, 200, 0}, {0, 201, 1}, {0, 401, 0}, {1, 600, 0}, {1, 601, 1}, {1, 1800, 1}, {1, 1801, 0}, {3, 400, 0}, {3, 401, 1}};
        for (int[] d : due) {
            PloughDepot x = ring(3);
            x.plough(d[0], 100);
            x.split();
            Towns.snow(x, d[1]);
            x.go(0, 2);
            check.due("part(0, 7) of kind " + d[0] + ", " + d[1], x.part(0, 7), 2 * d[2]);
            int again = x.split();
            check.due("part(0, 7): of another part", x.part(0, 7), again == 1 ? 0 : 2 * d[2]);
        }
    }

    // part() 8: "DRIVES behind which it had more than its MINUTES"
    private static void moreThanItsMinutes() {
        for (int minutes = 4; minutes <= 9; minutes++) {
            PloughDepot x = ring(4);
            x.plough(0, minutes);
            x.split();
            Towns.snow(x, 300);
            x.go(0, 4);
            // behind the drives it had 2, 4, 6, 8
            check.due("part(0, 3)", x.part(0, 3), 8);
            int late = 0;
            for (int had = 2; had <= 8; had += 2) late += had > minutes ? 1 : 0;
            check.due("part(0, 8) of " + minutes, x.part(0, 8), late);
        }
    }

    private static String textOf(PloughDepot x) {
        StringBuilder b = new StringBuilder();
        int n = x.text();
        check.due("status() behind text()", x.status(), 0);
        for (int i = 0; i < n; i++) b.append((char) x.sign(i));
        return b.toString();
    }

    private static void textIs(String what, PloughDepot x, String due) {
        String is = textOf(x);
        check.holds(what + " is " + is + ", due is " + due, is.equals(due));
    }

    // "THE ROUND as a text": of no DRIVES it is empty
    private static void textOfNoDrives() {
        new Edges(check, () -> Towns.of(1), PartEdgesTest::mark).tells("text(): no round yet", PloughDepot::text, 0);
        PloughDepot x = ring(3);
        check.due("text()", x.text(), 6);
        for (int s = 0; s < 3; s++) x.sides(s, 0);
        check.due("text(): of the round, not of the map", x.text(), 6);
        x.round();
        check.due("text()", x.text(), 0);
        check.due("sign(0): of the latest text()", x.sign(0), NONE);
    }

    // "behind the last one of a PLOUGH's PART its letter (A for 0)"
    private static void textWithLetters() {
        PloughDepot x = begun();
        textIs("parts of 2, 0, 4, 0", x, "+0+1A+2+3+4+5C");
        x.go(2, 4);
        textIs("what was driven is no matter", x, "+0+1A+2+3+4+5C");
        x.out(0);
        textIs("one is out", x, "+0+1+2+3+4+5C");
        x.undo();
        x.undo();
        textIs("undone", x, "+0+1A+2+3+4+5C");
        PloughDepot y = ring(12);
        for (int p = 0; p < 12; p++) y.plough(0, 1);
        y.split();
        textIs("all letters", y, "+0A+1B+2C+3D+4E+5F+6G+7H+8I+9J+10K+11L");
        y.round();
        textIs("no parts", y, "+0+1+2+3+4+5+6+7+8+9+10+11");
        PloughDepot z = Towns.of(3, new int[] {0, 1, 50}, new int[] {1, 2, 50});
        z.plough(0, 3);
        z.plough(1, 9);
        z.round();
        z.split();
        textIs("empty drives", z, "+0+1-1A-0B");
        PloughDepot many = Towns.of(2);
        for (int s = 0; s < 150; s++) many.street(0, 1, 1, false);
        for (int s = 0; s < 148; s++) if (s != 9 && s != 10 && s != 99 && s != 100) many.sides(s, 0);
        many.round();
        textIs("numbers of one, two and three signs", many, "+9+10+99+100+148+149");
    }

    // "Sign i of the latest text(); NONE: none such."
    private static void signOfTheLatestText() {
        PloughDepot x = begun();
        check.due("sign(0): no text() yet", x.sign(0), NONE);
        check.due("text()", x.text(), 14);
        check.due("sign(0)", x.sign(0), '+');
        check.due("sign(1)", x.sign(1), '0');
        check.due("sign(13)", x.sign(13), 'C');
        for (int i : new int[] {MIN, -1, 14, 15, 7999, 8000, MAX}) check.due("sign(" + i + ")", x.sign(i), NONE);
        check.due("told(9, 0)", x.told(9, 0), BAD);
        check.due("sign(-1)", x.sign(-1), NONE);
        check.due("status(): not of sign()", x.status(), BAD);
        x.round();
        check.due("sign(13): still the latest text()", x.sign(13), 'C');
        check.due("text(): without letters", x.text(), 12);
        check.due("sign(12)", x.sign(12), NONE);
        check.due("sign(11)", x.sign(11), '5');
        x.undo();
        check.due("sign(12): undo() leaves the text", x.sign(12), NONE);
    }
}
