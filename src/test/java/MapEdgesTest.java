/** The edges of promises 1 to 9 and 42, and of THE MAP in the terms: each method is a sentence of the document. */
public final class MapEdgesTest {
    private static final Check check = new Check("MapEdgesTest");
    private static final int BAD = PloughDepot.BAD, FULL = PloughDepot.FULL, NO = PloughDepot.NO, NONE = PloughDepot.NONE;
    private static final int MIN = Integer.MIN_VALUE, MAX = Integer.MAX_VALUE;

    public static void main(String[] args) {
        nothingIsThere();
        oneToTwentyCrossingsMore();
        sixtyCrossings();
        bothCrossingsOfAStreetAreThere();
        crossingsOfAStreetAreNotTheSame();
        lengthIsOneToTenThousand();
        oneHundredAndFiftyStreets();
        aStreetAtFirst();
        oneWayTellsWhatItWas();
        shutTellsWhatItWas();
        sidesAreZeroToTwo();
        sidesMakeClearedZero();
        mustBeCleared();
        toldIsOfZeroToEight();
        wayFromACrossingToItself();
        wayThatIsNotThere();
        wayAlongOpenStreetsAlone();
        wayAsItMayBeDriven();
        wayOfLeastLength();
        wayToTheLeastNextCrossing();
        wayByTheLeastStreet();
        wayAtHasNoneBehindTheLast();
        longestWay();
        wayOfTheMapAsItIs();
        countIsOfZeroToThree();
        check.end();
    }

    /** Three crossings, streets 0 - 1, 1 - 2 and, beside the first, 1 - 0. */
    private static PloughDepot town() {
        return Towns.of(3, new int[] {0, 1, 10}, new int[] {1, 2, 20}, new int[] {1, 0, 30});
    }

    private static Edges edges() {
        return new Edges(check, MapEdgesTest::town, x -> x.sides(2, 2));
    }

    // "Nothing is there."
    private static void nothingIsThere() {
        onNew("status()", PloughDepot::status, 0, 0);
        onNew("street", x -> x.street(0, 1, 1, false), BAD, 0);
        onNew("oneWay", x -> x.oneWay(0, true), BAD, 0);
        onNew("shut", x -> x.shut(0, true), BAD, 0);
        onNew("sides", x -> x.sides(0, 1), BAD, 0);
        onNew("told", x -> x.told(0, 0), BAD, 0);
        onNew("way", x -> x.way(0, 0), BAD, 0);
        onNew("wayAt", x -> x.wayAt(0, 0, 0), BAD, 0);
        onNew("gauge", x -> x.gauge(0, true), BAD, 0);
        onNew("row", x -> x.row(0, 1), BAD, 0);
        onNew("row below 0", x -> x.row(0, -1), BAD, 0);
        onNew("lose", x -> x.lose(0), BAD, 0);
        onNew("reading", x -> x.reading(0, 0, 0), BAD, 0);
        onNew("none", x -> x.none(0, 0, 0), BAD, 0);
        onNew("read", x -> x.read(0, 0), BAD, 0);
        onNew("copy", x -> x.copy(0, 0, 0, 0, 0), BAD, 0);
        onNew("copies", x -> x.copies(0, 0, 0), 0, 0);
        onNew("copies below 0", x -> x.copies(-1, -1, -1), 0, 0);
        onNew("snow", x -> x.snow(0), 0, 1);
        onNew("melt", x -> x.melt(8, 4), 2, 1);
        onNew("plough", x -> x.plough(0, 0), 0, 1);
        onNew("pair", x -> x.pair(0, 1, 0), BAD, 0);
        onNew("out", x -> x.out(0), BAD, 0);
        onNew("asks", x -> x.asks(0, 0, 0), BAD, 0);
        onNew("salt", x -> x.salt(0, 0), BAD, 0);
        onNew("odd", x -> x.odd(0), NONE, 0);
        onNew("least(0)", x -> x.least(0), 0, 0);
        onNew("least(1)", x -> x.least(1), BAD, 0);
        onNew("round", PloughDepot::round, 0, 1);
        onNew("at", x -> x.at(0, 0), NONE, 0);
        onNew("partner", x -> x.partner(0), BAD, 0);
        onNew("split", PloughDepot::split, 1, 1);
        onNew("part", x -> x.part(0, 0), BAD, 0);
        onNew("go", x -> x.go(0, 1), BAD, 0);
        onNew("looks", PloughDepot::looks, 0, 0);
        onNew("text", PloughDepot::text, 0, 0);
        onNew("sign", x -> x.sign(0), NONE, 0);
        onNew("digest", PloughDepot::digest, 7 * 31, 0);
        onNew("undo", PloughDepot::undo, 0, 0);
        onNew("trace", PloughDepot::trace, 0, 0);
        for (int i = 0; i < 7; i++) {
            int what = i;
            onNew("length(" + what + ")", x -> x.length(what), 0, 0);
            onNew("count(" + what + ")", x -> x.count(what), what < 4 ? 0 : BAD, 0);
            onNew("findings(" + what + ")", x -> x.findings(what), what < 5 ? 0 : BAD, 0);
        }
    }

    private static void onNew(String call, Edges.Call asked, int due, int undone) {
        PloughDepot x = new PloughDepot();
        check.due("new: " + call, asked.on(x), due);
        for (int kind = 0; kind < 5; kind++) check.due("new: findings(" + kind + ") behind " + call, x.findings(kind), 0);
        check.due("new: trace() behind " + call, x.trace(), 0);
        check.due("new: undo() behind " + call, x.undo(), undone);
        check.due("new: digest() behind " + call, x.digest(), 7 * 31);
    }

    // "n more CROSSINGS (1 .. 20): how many there are."
    private static void oneToTwentyCrossingsMore() {
        Edges e = edges();
        for (int n : new int[] {MIN, -1, 0, 21, 22, MAX}) e.refuses("crossings(" + n + ")", x -> x.crossings(n), BAD);
        for (int n : new int[] {1, 2, 19, 20}) e.changes("crossings(" + n + ")", x -> x.crossings(n), 3 + n);
        PloughDepot x = town();
        x.crossings(1);
        check.due("way(3, 3): it is there", x.way(3, 3), 0);
        check.due("way(4, 4): no further one", x.way(4, 4), BAD);
        check.due("crossings(20): behind those there are", x.crossings(20), 24);
    }

    // "CROSSINGS 0, 1, .. (60 at most)"
    private static void sixtyCrossings() {
        for (int there = 40; there <= 60; there++) {
            int have = there;
            Edges e = new Edges(check, () -> Towns.of(have, new int[] {0, 1, 1}), x -> x.shut(0, true));
            for (int n : new int[] {1, 60 - there, 61 - there, 20}) {
                if (n < 1) continue;
                String call = "crossings(" + n + ") behind " + there;
                if (there + n <= 60 && n <= 20) e.changes(call, x -> x.crossings(n), there + n);
                else e.refuses(call, x -> x.crossings(n), n > 20 ? BAD : FULL);
            }
        }
        Edges full = new Edges(check, () -> Towns.of(60, new int[] {0, 59, 1}), x -> x.shut(0, true));
        full.refuses("crossings(0) of 60: BAD is ahead of FULL", x -> x.crossings(0), BAD);
        full.refuses("crossings(21) of 60: BAD is ahead of FULL", x -> x.crossings(21), BAD);
        full.refuses("crossings(MAX) of 60", x -> x.crossings(MAX), BAD);
        full.tells("way(59, 59)", x -> x.way(59, 59), 0);
        full.refuses("way(60, 60)", x -> x.way(60, 60), BAD);
        full.tells("partner(59)", x -> x.partner(59), NONE);
        full.refuses("partner(60)", x -> x.partner(60), BAD);
        full.changes("street(58, 59, ..)", x -> x.street(58, 59, 1, false), 1);
        full.refuses("street(59, 60, ..)", x -> x.street(59, 60, 1, false), BAD);
        full.changes("gauge(59, ..)", x -> x.gauge(59, false), 0);
        full.refuses("gauge(60, ..)", x -> x.gauge(60, false), BAD);
    }

    // "A STREET .. BAD": STREETS join two CROSSINGS a, b
    private static void bothCrossingsOfAStreetAreThere() {
        Edges e = edges();
        for (int c : new int[] {MIN, -1, 3, 4, 60, MAX}) {
            e.refuses("street(" + c + ", 1, ..)", x -> x.street(c, 1, 5, false), BAD);
            e.refuses("street(1, " + c + ", ..)", x -> x.street(1, c, 5, true), BAD);
            e.refuses("street(" + c + ", " + c + ", ..)", x -> x.street(c, c, 5, true), BAD);
        }
        for (int[] ab : new int[][] {{0, 2}, {2, 0}, {2, 1}, {0, 1}}) {
            e.changes("street(" + ab[0] + ", " + ab[1] + ", ..)", x -> x.street(ab[0], ab[1], 5, false), 3);
        }
    }

    // "STREETS .. join two CROSSINGS a, b, that are not the same"
    private static void crossingsOfAStreetAreNotTheSame() {
        Edges e = edges();
        for (int c = 0; c < 3; c++) {
            int same = c;
            e.refuses("street(" + c + ", " + c + ", ..)", x -> x.street(same, same, 5, false), BAD);
        }
        e.changes("street(0, 1, ..): beside another one", x -> x.street(0, 1, 10, false), 3);
    }

    // "each has a LENGTH (1 .. 10000)"
    private static void lengthIsOneToTenThousand() {
        Edges e = edges();
        for (int length : new int[] {MIN, -10000, -1, 0, 10001, 10002, MAX}) e.refuses("street(.., " + length + ", ..)", x -> x.street(0, 2, length, false), BAD);
        for (int length : new int[] {1, 2, 9999, 10000}) {
            e.changes("street(.., " + length + ", ..)", x -> x.street(0, 2, length, true), 3);
            PloughDepot x = town();
            x.street(0, 2, length, true);
            check.due("told(3, 6)", x.told(3, 6), length);
            check.due("way(0, 2)", x.way(0, 2), Math.min(30, length));
        }
    }

    // "STREETS 0, 1, .. (150)"
    private static void oneHundredAndFiftyStreets() {
        for (int there = 148; there <= 150; there++) {
            int have = there;
            Edges e = new Edges(check, () -> streets(have), x -> x.shut(have - 1, true));
            if (there < 150) e.changes("street behind " + there, x -> x.street(1, 0, 7, false), there);
            else e.refuses("street behind " + there, x -> x.street(1, 0, 7, false), FULL);
            e.refuses("street(0, 0, ..) behind " + there + ": BAD is ahead of FULL", x -> x.street(0, 0, 7, false), BAD);
            e.refuses("street(.., 0, ..) behind " + there + ": BAD is ahead of FULL", x -> x.street(0, 1, 0, false), BAD);
            e.tells("told(" + (there - 1) + ", 6)", x -> x.told(have - 1, 6), there);
            e.refuses("told(" + there + ", 6)", x -> x.told(have, 6), BAD);
            e.changes("sides(" + (there - 1) + ", 2)", x -> x.sides(have - 1, 2), 1);
            e.refuses("sides(" + there + ", 2)", x -> x.sides(have, 2), BAD);
        }
    }

    private static PloughDepot streets(int n) {
        PloughDepot x = Towns.of(2);
        for (int i = 0; i < n; i++) x.street(0, 1, i + 1, false);
        return x;
    }

    // "is BOTH WAYS or ONE WAY (from a to b), OPEN (at first) or SHUT, has SIDES (.. 1 at first), a DRIFT (.. 0 at first), is GUESSED or is not
    // (it is not at first), and has CLEARED .. (0 at first)"
    private static void aStreetAtFirst() {
        for (int way = 0; way < 2; way++) {
            PloughDepot x = town();
            // the marks of another street at this number must not stay
            x.street(1, 2, 9, way == 0);
            x.undo();
            check.due("street", x.street(2, 0, 44, way == 1), 3);
            int[] due = {0, 0, 0, 1, 0, way, 44, 2, 0};
            for (int what = 0; what < 9; what++) check.due("told(3, " + what + ")", x.told(3, what), due[what]);
        }
    }

    // "A STREET is ONE WAY, or BOTH WAYS, from now on: what it was (1, 0). A CHANGE. BAD."
    private static void oneWayTellsWhatItWas() {
        Edges e = edges();
        for (int s : new int[] {MIN, -1, 3, 150, MAX}) {
            e.refuses("oneWay(" + s + ", true)", x -> x.oneWay(s, true), BAD);
            e.refuses("oneWay(" + s + ", false)", x -> x.oneWay(s, false), BAD);
        }
        for (int s = 0; s < 3; s++) {
            int street = s;
            e.changes("oneWay(" + s + ", true)", x -> x.oneWay(street, true), 0);
            e.changes("oneWay(" + s + ", false): as it was", x -> x.oneWay(street, false), 0);
            PloughDepot x = town();
            x.oneWay(s, true);
            check.due("oneWay(" + s + ", true): as it was", x.oneWay(s, true), 1);
            check.due("oneWay(" + s + ", false)", x.oneWay(s, false), 1);
            for (int other = 0; other < 3; other++) check.due("told(" + other + ", 5)", x.told(other, 5), 0);
        }
    }

    // "A STREET is SHUT, or OPEN, from now on: what it was (1, 0). A CHANGE. BAD."
    private static void shutTellsWhatItWas() {
        Edges e = edges();
        for (int s : new int[] {MIN, -1, 3, 150, MAX}) {
            e.refuses("shut(" + s + ", true)", x -> x.shut(s, true), BAD);
            e.refuses("shut(" + s + ", false)", x -> x.shut(s, false), BAD);
        }
        for (int s = 0; s < 3; s++) {
            int street = s;
            e.changes("shut(" + s + ", true)", x -> x.shut(street, true), 0);
            e.changes("shut(" + s + ", false): as it was", x -> x.shut(street, false), 0);
            PloughDepot x = town();
            x.shut(s, true);
            check.due("shut(" + s + ", true): as it was", x.shut(s, true), 1);
            for (int other = 0; other < 3; other++) check.due("told(" + other + ", 4)", x.told(other, 4), other == s ? 1 : 0);
            check.due("shut(" + s + ", false)", x.shut(s, false), 1);
            check.due("told(" + s + ", 4)", x.told(s, 4), 0);
        }
    }

    // "has SIDES (0 .. 2; 1 at first)": "SIDES of a STREET are n from now on .. how many they were. A CHANGE. BAD."
    private static void sidesAreZeroToTwo() {
        Edges e = edges();
        for (int n : new int[] {MIN, -2, -1, 3, 4, MAX}) e.refuses("sides(0, " + n + ")", x -> x.sides(0, n), BAD);
        for (int s : new int[] {MIN, -1, 3, 150, MAX}) e.refuses("sides(" + s + ", 1)", x -> x.sides(s, 1), BAD);
        for (int n = 0; n < 3; n++) {
            int sides = n;
            e.changes("sides(0, " + n + ")", x -> x.sides(0, sides), 1);
            e.changes("sides(2, " + n + ")", x -> x.sides(2, sides), 2);
            PloughDepot x = town();
            x.sides(1, n);
            check.due("told(1, 3)", x.told(1, 3), n);
            check.due("sides(1, 1): how many they were", x.sides(1, 1), n);
        }
    }

    // "CLEARED is 0"
    private static void sidesMakeClearedZero() {
        for (int n = 0; n < 3; n++) {
            PloughDepot x = Towns.drifted(150);
            x.sides(0, 2);
            x.plough(0, 100);
            x.round();
            x.split();
            x.go(0, 1);
            check.due("sides(0, 3): refused", x.sides(0, 3), BAD);
            check.due("told(0, 2): it leaves CLEARED", x.told(0, 2), 1);
            check.due("sides(0, " + n + ")", x.sides(0, n), 2);
            check.due("told(0, 2)", x.told(0, 2), 0);
            check.due("told(0, 0): DRIFT stays", x.told(0, 0), 150);
            check.due("undo()", x.undo(), 1);
            check.due("told(0, 2): as it was", x.told(0, 2), 1);
            check.due("told(0, 3): as it was", x.told(0, 3), 2);
        }
    }

    // "It MUST be cleared, if it is OPEN and SIDES are above 0."
    private static void mustBeCleared() {
        for (int n = 0; n < 3; n++) {
            for (int shut = 0; shut < 2; shut++) {
                PloughDepot x = Towns.of(2, new int[] {0, 1, 1});
                x.sides(0, n);
                x.shut(0, shut == 1);
                check.due("round() of " + n + " sides, shut: " + shut, x.round(), n > 0 && shut == 0 ? 2 : 0);
                check.due("length(2) of " + n + " sides, shut: " + shut, x.length(2), shut == 0 ? n : 0);
                check.due("odd(0) of " + n + " sides, shut: " + shut, x.odd(0), n == 1 && shut == 0 ? 0 : NONE);
            }
        }
    }

    // "Of a STREET: 0 DRIFT, .. 8 b. BAD."
    private static void toldIsOfZeroToEight() {
        Edges e = edges();
        for (int what : new int[] {MIN, -1, 9, 10, MAX}) {
            e.refuses("told(0, " + what + ")", x -> x.told(0, what), BAD);
            e.refuses("told(2, " + what + ")", x -> x.told(2, what), BAD);
        }
        for (int s : new int[] {MIN, -1, 3, 150, MAX}) {
            for (int what = 0; what < 9; what += 4) {
                int asked = what;
                e.refuses("told(" + s + ", " + what + ")", x -> x.told(s, asked), BAD);
            }
        }
        e.tells("told(0, 0)", x -> x.told(0, 0), 0);
        e.tells("told(0, 8)", x -> x.told(0, 8), 1);
        e.tells("told(2, 3)", x -> x.told(2, 3), 2);
        e.tells("told(2, 7)", x -> x.told(2, 7), 1);
        e.tells("told(2, 8)", x -> x.told(2, 8), 0);
    }

    // "From a CROSSING to itself it has no STREETS."
    private static void wayFromACrossingToItself() {
        Edges e = new Edges(check, () -> Towns.of(4, new int[] {0, 1, 10}, new int[] {1, 2, 20}, new int[] {1, 0, 1}), x -> x.sides(2, 2));
        for (int c = 0; c < 4; c++) {
            int at = c;
            e.tells("way(" + c + ", " + c + ")", x -> x.way(at, at), 0);
            for (int i : new int[] {-1, 0, 1}) e.tells("wayAt(" + c + ", " + c + ", " + i + ")", x -> x.wayAt(at, at, i), NONE);
        }
    }

    // "LENGTH of THE WAY from a to b. BAD; NO." "The i-th STREET .. BAD; NO."
    private static void wayThatIsNotThere() {
        Edges e = new Edges(check, () -> Towns.of(4, new int[] {0, 1, 10}, new int[] {2, 3, 20}), x -> x.sides(1, 2));
        for (int[] ab : new int[][] {{0, 2}, {2, 0}, {1, 3}, {3, 0}}) {
            e.refuses("way(" + ab[0] + ", " + ab[1] + ")", x -> x.way(ab[0], ab[1]), NO);
            for (int i : new int[] {MIN, -1, 0, 1, MAX}) {
                e.refuses("wayAt(" + ab[0] + ", " + ab[1] + ", " + i + ")", x -> x.wayAt(ab[0], ab[1], i), NO);
            }
        }
        for (int c : new int[] {MIN, -1, 4, 60, MAX}) {
            e.refuses("way(" + c + ", 0)", x -> x.way(c, 0), BAD);
            e.refuses("way(0, " + c + ")", x -> x.way(0, c), BAD);
            e.refuses("way(" + c + ", " + c + ")", x -> x.way(c, c), BAD);
            e.refuses("wayAt(" + c + ", 0, 0)", x -> x.wayAt(c, 0, 0), BAD);
            e.refuses("wayAt(0, " + c + ", 0)", x -> x.wayAt(0, c, 0), BAD);
            e.refuses("wayAt(" + c + ", " + c + ", -1)", x -> x.wayAt(c, c, -1), BAD);
        }
    }

    // "STREETS that are OPEN"
    private static void wayAlongOpenStreetsAlone() {
        PloughDepot x = town();
        check.due("way(0, 1)", x.way(0, 1), 10);
        x.shut(0, true);
        check.due("way(0, 1): street 0 is shut", x.way(0, 1), 30);
        check.due("wayAt(0, 1, 0)", x.wayAt(0, 1, 0), 2);
        x.shut(2, true);
        check.due("way(0, 1): both are shut", x.way(0, 1), NO);
        check.due("status()", x.status(), NO);
        check.due("way(1, 2)", x.way(1, 2), 20);
        x.sides(1, 0);
        check.due("way(1, 2): no sides are no matter", x.way(1, 2), 20);
        x.shut(0, false);
        check.due("way(0, 1): open again", x.way(0, 1), 10);
    }

    // "each driven as it may be"
    private static void wayAsItMayBeDriven() {
        PloughDepot x = town();
        x.oneWay(0, true);
        check.due("way(0, 1): from a to b", x.way(0, 1), 10);
        check.due("way(1, 0): not from b to a", x.way(1, 0), 30);
        check.due("way(2, 0)", x.way(2, 0), 50);
        check.due("wayAt(2, 0, 1)", x.wayAt(2, 0, 1), 2);
        x.oneWay(2, true);
        check.due("way(1, 0): street 2 is from 1 to 0", x.way(1, 0), 30);
        x.shut(0, true);
        check.due("way(0, 1): street 2 the wrong way", x.way(0, 1), NO);
        check.due("way(1, 0)", x.way(1, 0), 30);
    }

    // "of least LENGTH together"
    private static void wayOfLeastLength() {
        for (int straight = 29; straight <= 31; straight++) {
            PloughDepot x = Towns.of(3, new int[] {0, 1, 10}, new int[] {1, 2, 20}, new int[] {0, 2, straight});
            check.due("way(0, 2) beside " + straight, x.way(0, 2), Math.min(30, straight));
            // 1 is the lesser next crossing where both are as long
            check.due("wayAt(0, 2, 0) beside " + straight, x.wayAt(0, 2, 0), straight < 30 ? 2 : 0);
            check.due("wayAt(0, 2, 1) beside " + straight, x.wayAt(0, 2, 1), straight < 30 ? NONE : 1);
            check.due("wayAt(2, 0, 0) beside " + straight, x.wayAt(2, 0, 0), straight <= 30 ? 2 : 1);
        }
    }

    // "of several such: from the first CROSSING on always to the least next CROSSING"
    private static void wayToTheLeastNextCrossing() {
        // by 1 and 3, by 1 and 2, by 2 alone: all 6 long
        PloughDepot x = Towns.of(5, new int[] {0, 2, 3}, new int[] {2, 4, 3}, new int[] {1, 3, 2}, new int[] {3, 4, 2}, new int[] {1, 2, 1}, new int[] {0, 1, 2});
        int[] due = {5, 4, 1, NONE};
        check.due("way(0, 4)", x.way(0, 4), 6);
        for (int i = 0; i < 4; i++) check.due("wayAt(0, 4, " + i + ")", x.wayAt(0, 4, i), due[i]);
        int[] back = {1, 0, NONE};
        for (int i = 0; i < 3; i++) check.due("wayAt(4, 0, " + i + ")", x.wayAt(4, 0, i), back[i]);
        // a street from 2 to 0 would do by its length, and 0 is less than 3, but it is none at 1
        PloughDepot y = Towns.of(4, new int[] {2, 0, 2}, new int[] {1, 3, 1}, new int[] {3, 0, 1});
        check.due("wayAt(1, 0, 0): a street at 1", y.wayAt(1, 0, 0), 1);
        check.due("wayAt(1, 0, 1)", y.wayAt(1, 0, 1), 2);
        x.shut(4, true);
        int[] byThree = {5, 2, 3, NONE};
        for (int i = 0; i < 4; i++) check.due("wayAt(0, 4, " + i + "), 1 - 2 is shut", x.wayAt(0, 4, i), byThree[i]);
    }

    // "and by the least STREET to it, with which that least LENGTH can be kept"
    private static void wayByTheLeastStreet() {
        PloughDepot x = Towns.of(2, new int[] {1, 0, 6}, new int[] {0, 1, 5}, new int[] {1, 0, 5}, new int[] {0, 1, 5});
        check.due("wayAt(0, 1, 0): the least, but not the longer one", x.wayAt(0, 1, 0), 1);
        check.due("wayAt(1, 0, 0)", x.wayAt(1, 0, 0), 1);
        x.oneWay(1, true);
        check.due("wayAt(1, 0, 0): 1 is one way", x.wayAt(1, 0, 0), 2);
        x.oneWay(2, true);
        check.due("wayAt(0, 1, 0)", x.wayAt(0, 1, 0), 1);
        x.shut(1, true);
        check.due("wayAt(0, 1, 0): 2 is one way from 1", x.wayAt(0, 1, 0), 3);
    }

    // "The i-th STREET (from 0 on) of THE WAY from a to b; NONE: none such."
    private static void wayAtHasNoneBehindTheLast() {
        Edges e = edges();
        e.tells("wayAt(0, 2, 0)", x -> x.wayAt(0, 2, 0), 0);
        e.tells("wayAt(0, 2, 1)", x -> x.wayAt(0, 2, 1), 1);
        for (int i : new int[] {MIN, -1, 2, 3, 59, 60, MAX}) e.tells("wayAt(0, 2, " + i + ")", x -> x.wayAt(0, 2, i), NONE);
        e.tells("wayAt(0, 1, 0)", x -> x.wayAt(0, 1, 0), 0);
        e.tells("wayAt(0, 1, 1)", x -> x.wayAt(0, 1, 1), NONE);
    }

    // the most CROSSINGS, each STREET of the greatest LENGTH
    private static void longestWay() {
        PloughDepot x = Towns.of(60);
        for (int i = 0; i < 59; i++) x.street(i + 1, i, 10000, false);
        check.due("way(0, 59)", x.way(0, 59), 590000);
        check.due("way(59, 0)", x.way(59, 0), 590000);
        check.due("wayAt(0, 59, 0)", x.wayAt(0, 59, 0), 0);
        check.due("wayAt(0, 59, 58)", x.wayAt(0, 59, 58), 58);
        check.due("wayAt(0, 59, 59)", x.wayAt(0, 59, 59), NONE);
        check.due("wayAt(59, 0, 58)", x.wayAt(59, 0, 58), 0);
        x.shut(30, true);
        check.due("way(0, 59): broken", x.way(0, 59), NO);
        check.due("way(0, 30)", x.way(0, 30), 300000);
        check.due("way(31, 59)", x.way(31, 59), 280000);
    }

    // what a way is does not stay from another map
    private static void wayOfTheMapAsItIs() {
        PloughDepot x = town();
        check.due("way(0, 2)", x.way(0, 2), 30);
        x.street(0, 2, 29, false);
        check.due("way(0, 2): a street more", x.way(0, 2), 29);
        x.undo();
        check.due("way(0, 2): undone", x.way(0, 2), 30);
        x.shut(1, true);
        check.due("way(0, 2): shut", x.way(0, 2), NO);
        x.undo();
        check.due("way(0, 2): undone", x.way(0, 2), 30);
        x.oneWay(1, true);
        check.due("way(2, 0): one way", x.way(2, 0), NO);
        x.undo();
        check.due("way(2, 0): undone", x.way(2, 0), 30);
        x.crossings(1);
        check.due("way(0, 3)", x.way(0, 3), NO);
        x.street(3, 2, 1, true);
        check.due("way(3, 0)", x.way(3, 0), 31);
        check.due("way(0, 3)", x.way(0, 3), NO);
        x.oneWay(3, false);
        check.due("way(0, 3): both ways", x.way(0, 3), 31);
    }

    // "0 CROSSINGS, 1 STREETS, 2 GAUGES, 3 PLOUGHS. BAD."; STATUS is not of count()
    private static void countIsOfZeroToThree() {
        PloughDepot x = town();
        x.gauge(0, true);
        x.gauge(1, true);
        for (int i = 0; i < 5; i++) x.plough(i % 4, i);
        int[] due = {3, 3, 2, 5};
        for (int what = 0; what < 4; what++) check.due("count(" + what + ")", x.count(what), due[what]);
        for (int what : new int[] {MIN, -1, 4, 5, MAX}) {
            check.due("count(" + what + ")", x.count(what), BAD);
            check.due("status() behind count(" + what + ")", x.status(), 0);
        }
        check.due("way(0, 9)", x.way(0, 9), BAD);
        check.due("count(0)", x.count(0), 3);
        check.due("status(): of way()", x.status(), BAD);
        x.out(4);
        check.due("count(3): with those that are out", x.count(3), 5);
        x.pair(0, 1, 1);
        check.due("count(3): with pairs", x.count(3), 6);
        x.undo();
        check.due("count(3)", x.count(3), 5);
    }
}
