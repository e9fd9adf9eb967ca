/** The edges of promises 25 to 30, and of THE ROUND in the terms: each method is a sentence of the document. */
public final class RoundEdgesTest {
    private static final Check check = new Check("RoundEdgesTest");
    private static final int BAD = PloughDepot.BAD, FULL = PloughDepot.FULL, NO = PloughDepot.NO, NONE = PloughDepot.NONE;
    private static final int MIN = Integer.MIN_VALUE, MAX = Integer.MAX_VALUE;

    public static void main(String[] args) {
        oddHasNoneBehindTheLast();
        oddByStreetsThatMustBeCleared();
        leastOfOddBits();
        leastOfFourteenOdd();
        leastOfAnOneWayStreet();
        leastOfOnesThatCannotBePaired();
        noCrossings();
        nothingToBeCleared();
        madeByPairsOrByNearest();
        noJoining();
        noWayToJoin();
        joinsAsLongAsThereIsOne();
        joinsByTheLeastWay();
        fourteenArePairedLeast();
        moreAreExchanged();
        exchangedOnlyIfLess();
        leastPartnersOfSeveral();
        sixtyAreOdd();
        mostStreets();
        thousandExchanges();
        noWayToTheNext();
        noWayBack();
        twoThousandDrives();
        fullAheadOfAClearingDrive();
        fullOnTheWayBack();
        noOrFullWhicheverIsMet();
        refusedLeavesTheRoundThatWas();
        anotherRoundTakesTheParts();
        atOfDrives();
        lengthOfZeroToSix();
        partnerOfCrossings();
        check.end();
    }

    private static int mark(PloughDepot x) {
        return x.gauge(0, true);
    }

    /** Crossings 0 - 1 - 2 - 3 in a chain, and 4 beside: 0 and 3 are odd. */
    private static PloughDepot chain() {
        return Towns.of(5, new int[] {0, 1, 10}, new int[] {1, 2, 20}, new int[] {2, 3, 30});
    }

    private static Edges edges() {
        return new Edges(check, RoundEdgesTest::chain, RoundEdgesTest::mark);
    }

    /** A star: 0 is joined with 1 .. n, by lengths 1 .. n; these, and 0 if n is odd, are odd. */
    private static PloughDepot star(int n) {
        PloughDepot x = Towns.of(n + 1);
        for (int i = 1; i <= n; i++) x.street(0, i, i, false);
        return x;
    }

    // "The i-th ODD CROSSING ..; NONE: none such."
    private static void oddHasNoneBehindTheLast() {
        Edges e = edges();
        e.tells("odd(0)", x -> x.odd(0), 0);
        e.tells("odd(1)", x -> x.odd(1), 3);
        for (int i : new int[] {MIN, -1, 2, 3, 59, 60, MAX}) e.tells("odd(" + i + ")", x -> x.odd(i), NONE);
        Edges all = new Edges(check, () -> star(59), RoundEdgesTest::mark);
        for (int i : new int[] {0, 1, 58, 59}) all.tells("odd(" + i + ") of 60", x -> x.odd(i), i);
        for (int i : new int[] {-1, 60, 61}) all.tells("odd(" + i + ") of 60", x -> x.odd(i), NONE);
    }

    // "(by STREETS that MUST be cleared as they are, whatever their ways)"
    private static void oddByStreetsThatMustBeCleared() {
        for (int n = 0; n < 3; n++) {
            PloughDepot x = chain();
            x.sides(1, n);
            check.due("odd(1), " + n + " sides", x.odd(1), n == 1 ? 3 : 1);
            check.due("odd(2), " + n + " sides", x.odd(2), n == 1 ? NONE : 2);
            x.oneWay(1, true);
            check.due("odd(1), " + n + " sides, one way", x.odd(1), n == 1 ? 3 : 1);
            x.shut(1, true);
            check.due("odd(2), " + n + " sides, shut", x.odd(2), 2);
        }
        PloughDepot x = chain();
        x.round();
        check.due("odd(0): not by TIMES of the round", x.odd(0), 0);
        x.shut(0, true);
        check.due("odd(0): a street is shut", x.odd(0), 1);
        x.undo();
        check.due("odd(0): undone", x.odd(0), 0);
    }

    // "LEAST of a set of ODD CROSSINGS (as bits, by i) .. BAD: other bits"
    private static void leastOfOddBits() {
        Edges e = edges();
        e.tells("least(0)", x -> x.least(0), 0);
        e.tells("least(3)", x -> x.least(3), 60);
        for (int bits : new int[] {MIN, MIN | 3, -1, -4, 4, 5, 7, 8, 1 << 14, 1 << 30, MAX}) e.refuses("least(" + bits + ")", x -> x.least(bits), BAD);
        Edges none = new Edges(check, () -> Towns.of(2), RoundEdgesTest::mark);
        none.tells("least(0): none is odd", x -> x.least(0), 0);
        none.refuses("least(1): none is odd", x -> x.least(1), BAD);
        none.refuses("least(MIN): none is odd", x -> x.least(MIN), BAD);
    }

    // "more than 14 are ODD"
    private static void leastOfFourteenOdd() {
        Edges thirteen = new Edges(check, () -> star(13), RoundEdgesTest::mark);
        thirteen.tells("least: all of 14, the depot is one", x -> x.least((1 << 14) - 1), 91);
        thirteen.tells("least: the depot and the last", x -> x.least(1 << 13 | 1), 13);
        Edges fourteen = new Edges(check, () -> star(14), RoundEdgesTest::mark);
        fourteen.tells("least: none of 14", x -> x.least(0), 0);
        fourteen.tells("least: all of 14", x -> x.least((1 << 14) - 1), 105);
        fourteen.tells("least: the first and the last of 14", x -> x.least(1 << 13 | 1), 15);
        fourteen.refuses("least: a bit beside 14", x -> x.least(1 << 14), BAD);
        fourteen.refuses("least: all and a bit beside 14", x -> x.least((1 << 15) - 1), BAD);
        fourteen.refuses("least: 13 of 14", x -> x.least((1 << 13) - 1), NO);
        Edges sixteen = new Edges(check, () -> star(16), RoundEdgesTest::mark);
        for (int bits : new int[] {0, 3, (1 << 14) - 1, (1 << 16) - 1, -1}) sixteen.refuses("least(" + bits + ") of 16", x -> x.least(bits), BAD);
        PloughDepot x = star(16);
        x.sides(0, 2);
        x.sides(15, 2);
        check.due("least: two of 16 are even now", x.least((1 << 14) - 1), 136 - 1 - 16);
        x.undo();
        check.due("least: 15 and the depot", x.least(0), BAD);
        x = star(60 - 1);
        check.due("least(0) of 60", x.least(0), BAD);
    }

    // "an OPEN STREET is ONE WAY"
    private static void leastOfAnOneWayStreet() {
        Edges e = new Edges(check, () -> {
            PloughDepot x = chain();
            x.oneWay(1, true);
            return x;
        }, RoundEdgesTest::mark);
        for (int bits : new int[] {0, 1, 3, 4}) e.refuses("least(" + bits + "), one way", x -> x.least(bits), BAD);
        PloughDepot x = chain();
        x.oneWay(2, true);
        check.due("least(0)", x.least(0), BAD);
        x.sides(2, 0);
        check.due("least(0): it has no sides, but is open", x.least(0), BAD);
        x.shut(2, true);
        check.due("least(3): it is shut", x.least(3), 30);
        x.shut(2, false);
        x.oneWay(2, false);
        check.due("least(3): both ways again", x.least(3), 30);
    }

    // "NO: they cannot be PAIRED."
    private static void leastOfOnesThatCannotBePaired() {
        Edges e = new Edges(check, () -> Towns.of(4, new int[] {0, 1, 5}, new int[] {2, 3, 7}), RoundEdgesTest::mark);
        for (int bits : new int[] {1, 2, 4, 8, 7, 11, 13, 14}) e.refuses("least(" + bits + "): an odd number", x -> x.least(bits), NO);
        for (int bits : new int[] {5, 6, 9, 10}) e.refuses("least(" + bits + "): no way", x -> x.least(bits), NO);
        e.tells("least(3)", x -> x.least(3), 5);
        e.tells("least(12)", x -> x.least(12), 7);
        e.tells("least(15)", x -> x.least(15), 12);
        e.refuses("least(16): BAD is ahead of NO", x -> x.least(16), BAD);
        e.refuses("least(17): BAD is ahead of NO", x -> x.least(17), BAD);
    }

    private static void sums(String what, PloughDepot x, int... due) {
        for (int i = 0; i < 7; i++) check.due(what + ": length(" + i + ")", x.length(i), due[i]);
    }

    // "(No CROSSINGS .. : 0.)"
    private static void noCrossings() {
        Edges e = new Edges(check, PloughDepot::new, x -> x.plough(0, 1));
        e.changes("round()", PloughDepot::round, 0);
        PloughDepot x = new PloughDepot();
        check.due("round()", x.round(), 0);
        sums("no crossings", x, 0, 0, 0, 0, 0, 0, 1);
        check.due("at(0, 0)", x.at(0, 0), NONE);
        check.due("text()", x.text(), 0);
        check.due("undo()", x.undo(), 1);
        sums("undone", x, 0, 0, 0, 0, 0, 0, 0);
    }

    // "(.. nothing to be cleared: 0.)"
    private static void nothingToBeCleared() {
        Edges alone = new Edges(check, () -> Towns.of(1), RoundEdgesTest::mark);
        alone.changes("round(): the depot alone", PloughDepot::round, 0);
        Edges without = new Edges(check, () -> {
            PloughDepot x = chain();
            x.round();
            for (int s = 0; s < 3; s++) x.sides(s, 0);
            return x;
        }, RoundEdgesTest::mark);
        without.changes("round(): no sides", PloughDepot::round, 0);
        Edges shut = new Edges(check, () -> {
            PloughDepot x = chain();
            x.round();
            for (int s = 0; s < 3; s++) x.shut(s, true);
            return x;
        }, RoundEdgesTest::mark);
        shut.changes("round(): all are shut", PloughDepot::round, 0);
        PloughDepot x = chain();
        x.round();
        for (int s = 0; s < 3; s++) x.sides(s, 0);
        check.due("length(0): the round stays", x.length(0), 6);
        check.due("round()", x.round(), 0);
        sums("no sides", x, 0, 0, 0, 0, 0, 0, 1);
        check.due("partner(0)", x.partner(0), NONE);
        x.oneWay(1, true);
        check.due("round(): one way", x.round(), 0);
        sums("no sides, one way", x, 0, 0, 0, 0, 0, 0, 2);
    }

    // "(A) If all OPEN STREETS are BOTH WAYS"; "(B) If an OPEN STREET is ONE WAY"; length() 6: "0 not yet, 1 by (A), 2 by (B)"
    private static void madeByPairsOrByNearest() {
        PloughDepot x = Towns.of(3, new int[] {0, 1, 1}, new int[] {0, 2, 1}, new int[] {2, 0, 1});
        check.due("length(6): not yet", x.length(6), 0);
        x.round();
        check.due("length(6)", x.length(6), 1);
        check.due("length(5)", x.length(5), 1);
        x.oneWay(1, true);
        check.due("length(6): until another round", x.length(6), 1);
        x.round();
        check.due("length(6): one way", x.length(6), 2);
        check.due("length(5): no pairs", x.length(5), 0);
        check.due("partner(0): no pairs", x.partner(0), NONE);
        x.sides(1, 0);
        x.round();
        check.due("length(6): one way without sides", x.length(6), 2);
        x.shut(1, true);
        x.round();
        check.due("length(6): one way, but shut", x.length(6), 1);
        x.undo();
        check.due("length(6)", x.length(6), 2);
    }

    // length() 3: "how often there was JOINING"
    private static void noJoining() {
        PloughDepot x = chain();
        x.round();
        sums("chain", x, 6, 120, 3, 0, 0, 1, 1);
        // 0 - 1 is driven by nobody, so 1 cannot be come to along such streets
        x.sides(0, 0);
        x.round();
        sums("joined", x, 6, 120, 2, 1, 0, 1, 1);
        check.due("at(0, 3)", x.at(0, 3), 0);
    }

    // "(No WAY: NO.)"
    private static void noWayToJoin() {
        Edges e = new Edges(check, () -> Towns.of(4, new int[] {0, 1, 5}, new int[] {2, 3, 7}), RoundEdgesTest::mark);
        e.refuses("round()", PloughDepot::round, NO);
        Edges apart = new Edges(check, () -> Towns.of(3, new int[] {1, 2, 5}), RoundEdgesTest::mark);
        apart.refuses("round(): the depot is apart", PloughDepot::round, NO);
        Edges third = new Edges(check, () -> {
            PloughDepot x = Towns.of(6, new int[] {2, 3, 7}, new int[] {0, 1, 5}, new int[] {1, 2, 5}, new int[] {4, 5, 1});
            x.sides(2, 0);
            return x;
        }, RoundEdgesTest::mark);
        third.refuses("round(): one can be joined, one cannot", PloughDepot::round, NO);
        PloughDepot x = Towns.of(4, new int[] {0, 1, 5}, new int[] {2, 3, 7});
        x.sides(1, 0);
        check.due("round(): it need not be cleared", x.round(), 2);
        x.sides(1, 2);
        check.due("round()", x.round(), NO);
        x.shut(1, true);
        check.due("round(): it is shut", x.round(), 2);
    }

    // "JOINING: as long as there is a STREET with TIMES above 0 that cannot be come to"
    private static void joinsAsLongAsThereIsOne() {
        // every second street of a chain of 60 is to be cleared, the first one is not
        PloughDepot x = Towns.of(60);
        for (int i = 0; i < 59; i++) {
            x.street(i, i + 1, 1, false);
            if (i % 2 == 0) x.sides(i, 0);
        }
        check.due("round()", x.round(), 2 * 58);
        check.due("length(3)", x.length(3), 29);
        check.due("length(2)", x.length(2), 29);
        check.due("length(5): each is odd but 0 and the last", x.length(5), 29);
        check.due("at(57, 2): up to the end", x.at(57, 2), 58);
        check.due("at(58, 1)", x.at(58, 1), 58);
    }

    // "the one of least LENGTH (the least first CROSSING of several, then the least last one)"
    private static void joinsByTheLeastWay() {
        // 3 - 4 is to be joined with 0 - 1: by 1 - 3 (2), 0 - 4 (3) or 0 - 3 (4)
        PloughDepot x = Towns.of(5, new int[] {3, 4, 1}, new int[] {0, 1, 1}, new int[] {1, 3, 5}, new int[] {0, 4, 5}, new int[] {0, 3, 5}, new int[] {1, 4, 4});
        for (int s = 2; s < 6; s++) x.sides(s, 0);
        joinedBy("1 to 4 is less", x, 5);
        x.shut(5, true);
        joinedBy("all are as long: from 0, to 3", x, 4);
        x.shut(4, true);
        joinedBy("from 0, to 4", x, 3);
        x.shut(3, true);
        joinedBy("from 1", x, 2);
        x.shut(2, true);
        check.due("round(): none is left", x.round(), NO);
        check.due("at(1, 0): the round that was", x.at(1, 0), 2);
    }

    /** Each round goes out to the joined street and back by the same way: street is driven twice, and the others that could join are not. */
    private static void joinedBy(String what, PloughDepot x, int street) {
        check.due(what + ": round()", x.round(), 6);
        check.due(what + ": length(3)", x.length(3), 1);
        int[] driven = new int[6];
        for (int i = 0; i < 6; i++) driven[x.at(i, 0)]++;
        for (int s = 0; s < 6; s++) check.due(what + ": drives of street " + s, driven[s], s < 2 || s == street ? 2 : 0);
    }

    /**
     * A ring 1 .. 6 with lengths 3 and 2 by turns, and leaves from 7 on, each with a long or a short street to the depot, so that
     * all but the depot are odd: 1 with 2, 3 with 4, 5 with 6 can not be bettered by an exchange, but 2 with 3, 4 with 5, 6 with 1 are less.
     */
    private static PloughDepot hexagon(int leaves) {
        PloughDepot x = Towns.of(7 + leaves);
        for (int i = 0; i < 6; i++) {
            x.street(1 + i, 1 + (i + 1) % 6, 3 - i % 2, false);
            x.sides(i, 2);
        }
        for (int i = 1; i <= 6; i++) x.street(0, i, 10000, false);
        for (int i = 0; i < leaves; i++) x.street(0, 7 + i, 1, false);
        return x;
    }

    private static void partners(String what, PloughDepot x, int... pairs) {
        for (int i = 0; i < pairs.length; i += 2) {
            check.due(what + ": partner(" + pairs[i] + ")", x.partner(pairs[i]), pairs[i + 1]);
            check.due(what + ": partner(" + pairs[i + 1] + ")", x.partner(pairs[i + 1]), pairs[i]);
        }
        check.due(what + ": length(5)", x.length(5), pairs.length / 2);
        check.due(what + ": partner(0)", x.partner(0), NONE);
    }

    // "They are PAIRED: if there are 14 or less, so that THE WAYS of the PAIRS .. are least together"
    private static void fourteenArePairedLeast() {
        PloughDepot x = hexagon(6);
        check.due("round() of 12", x.round() > 0 ? 1 : 0, 1);
        partners("twelve", x, 1, 6, 2, 3, 4, 5, 7, 8, 9, 10, 11, 12);
        x = hexagon(8);
        check.due("least: the ring", x.least((1 << 6) - 1), 6);
        check.due("least: the ring and the leaves", x.least((1 << 14) - 1), 6 + 8);
        check.due("odd(13)", x.odd(13), 14);
        check.due("odd(14)", x.odd(14), NONE);
        x.round();
        partners("fourteen", x, 1, 6, 2, 3, 4, 5, 7, 8, 9, 10, 11, 12, 13, 14);
        check.due("length(4): no exchanges", x.length(4), 0);
        check.due("length(1)", x.length(1), 2 * 15 + 60000 + 8 + 6 + 8);
    }

    // "If there are more: the first with the second, the third with the fourth, and on; then .. an EXCHANGE"
    private static void moreAreExchanged() {
        PloughDepot x = hexagon(10);
        check.due("odd(15)", x.odd(15), 16);
        x.round();
        partners("sixteen", x, 1, 2, 3, 4, 5, 6, 7, 8, 9, 10, 11, 12, 13, 14, 15, 16);
        check.due("length(4): nothing is less", x.length(4), 0);
        check.due("length(1)", x.length(1), 2 * 15 + 60000 + 10 + 9 + 10);
    }

    // "if THE WAYS of (p, r), (q, s) are less together .. else, if (p, s), (q, r) are": not if they are as long
    private static void exchangedOnlyIfLess() {
        for (int middle = 0; middle < 3; middle++) {
            // leaves by turns at the two ends of a street: to stay at one end is less, however short that street is
            PloughDepot x = Towns.of(20);
            x.street(0, 1, 1 + middle, false);
            x.sides(0, 2);
            for (int i = 0; i < 16; i++) x.street(i % 2, 2 + i, 1, false);
            x.round();
            check.due("length(4)", x.length(4), 4);
            check.due("partner(2)", x.partner(2), 4);
        }
        PloughDepot x = Towns.of(17);
        for (int i = 1; i <= 16; i++) x.street(0, i, i % 3 + 1, false);
        x.round();
        check.due("length(4): all are as long", x.length(4), 0);
        partners("as long", x, 1, 2, 3, 4, 5, 6, 7, 8, 9, 10, 11, 12, 13, 14, 15, 16);
    }

    // "of several such: that in which the least CROSSING has the least partner, then the least one of those left, and on"
    private static void leastPartnersOfSeveral() {
        // the depot is on the ways of all others, so that all pairs are as long together
        for (int n = 3; n <= 13; n += 2) {
            PloughDepot x = star(n);
            check.due("round() of " + (n + 1), x.round(), 2 * n);
            check.due("length(5)", x.length(5), (n + 1) / 2);
            for (int c = 0; c <= n; c++) check.due("partner(" + c + ") of " + (n + 1), x.partner(c), c ^ 1);
        }
    }

    // the most STREETS
    private static void mostStreets() {
        PloughDepot x = Towns.of(2);
        for (int s = 0; s < 150; s++) x.street(s % 2, 1 - s % 2, 1, false);
        check.due("round() by (A)", x.round(), 150);
        for (int i = 0; i < 150; i += 149) check.due("at(" + i + ", 0)", x.at(i, 0), i);
        sums("by (A)", x, 150, 150, 150, 0, 0, 0, 1);
        x.oneWay(149, true);
        check.due("round() by (B)", x.round(), 150);
        for (int i = 0; i < 150; i += 149) check.due("at(" + i + ", 0)", x.at(i, 0), i);
        sums("by (B)", x, 150, 150, 150, 0, 0, 0, 2);
        x.sides(149, 2);
        check.due("round(): a side more", x.round(), 152);
        check.due("at(151, 0)", x.at(151, 0), 149);
        check.due("length(2)", x.length(2), 151);
    }

    // the most ODD CROSSINGS
    private static void sixtyAreOdd() {
        PloughDepot x = Towns.of(60);
        // a chain of streets with one and two sides by turns
        for (int i = 0; i < 59; i++) {
            x.street(i, i + 1, 10000, false);
            x.sides(i, i % 2 == 0 ? 1 : 2);
        }
        check.due("odd(59)", x.odd(59), 59);
        check.due("odd(60)", x.odd(60), NONE);
        check.due("least(0)", x.least(0), BAD);
        check.due("round()", x.round(), 118);
        sums("sixty", x, 118, 1180000, 30 + 58, 0, 0, 30, 1);
        for (int c = 0; c < 60; c++) check.due("partner(" + c + ")", x.partner(c), c ^ 1);
    }

    // "as long as there are such, but 1000 times at most"
    private static void thousandExchanges() {
        exchanges(3, 141, 999);
        exchanges(9, 71, 1000);
        // these would go on for 1 and for 2 more
        exchanges(3, 281, 1000);
        exchanges(0, ManyExchanges.length(0), 1000);
    }

    private static void exchanges(int street, int length, int due) {
        PloughDepot x = Towns.of(60);
        SlowDepot slow = new SlowDepot();
        for (int i = 0; i < 3; i++) slow.crossings(20);
        int[] sides = ManyExchanges.sides();
        for (int s = 0; s < sides.length; s++) {
            int a = ManyExchanges.a(s), b = ManyExchanges.b(s), l = s == street ? length : ManyExchanges.length(s);
            check.due("street " + s, x.street(a, b, l, false), slow.street(a, b, l, false));
            if (sides[s] == 2) check.due("sides " + s, x.sides(s, 2), slow.sides(s, 2));
        }
        check.due("odd(59)", x.odd(59), 59);
        check.due("round()", x.round(), slow.round());
        check.due("length(4) with " + length + " of street " + street, x.length(4), due);
        check.due("length(5)", x.length(5), 30);
        check.due("length(1)", x.length(1), slow.length(1));
        for (int c = 0; c < 60; c++) check.due("partner(" + c + ")", x.partner(c), slow.partner(c));
        check.due("digest()", x.digest(), slow.digest());
    }

    // (B) "(No WAY: NO.)": to a street that must be cleared
    private static void noWayToTheNext() {
        Edges e = new Edges(check, () -> {
            PloughDepot x = Towns.of(3);
            x.street(0, 1, 1, true);
            x.street(1, 0, 1, true);
            x.street(2, 0, 1, true);
            return x;
        }, RoundEdgesTest::mark);
        e.refuses("round(): 2 cannot be come to", PloughDepot::round, NO);
        PloughDepot x = Towns.of(3);
        x.street(0, 1, 1, true);
        x.street(1, 0, 1, true);
        x.street(2, 0, 1, false);
        check.due("round(): both ways, so it may begin at 0, and go back", x.round(), 4);
        x.oneWay(2, true);
        check.due("round()", x.round(), NO);
        x.sides(2, 0);
        check.due("round(): it need not be cleared", x.round(), 2);
        x.undo();
        check.due("length(0): the round that was", x.length(0), 4);
    }

    // "Then THE WAY back to THE DEPOT, EMPTY. (No WAY: NO.)"
    private static void noWayBack() {
        Edges e = new Edges(check, () -> {
            PloughDepot x = Towns.of(2);
            x.street(0, 1, 1, true);
            return x;
        }, RoundEdgesTest::mark);
        e.refuses("round(): no way back", PloughDepot::round, NO);
        PloughDepot x = Towns.of(2);
        x.street(0, 1, 1, true);
        x.sides(0, 2);
        check.due("round(): not even to its second side", x.round(), NO);
        x.street(1, 0, 1, true);
        x.sides(1, 0);
        check.due("round()", x.round(), 4);
        check.due("at(1, 3): empty", x.at(1, 3), 0);
        check.due("at(3, 3): empty", x.at(3, 3), 0);
        x.sides(1, 2);
        check.due("round(): it ends at the depot as it is", x.round(), 4);
        check.due("at(3, 3)", x.at(3, 3), 1);
    }

    /** A ring of 50 one-way streets from the depot, and 20 streets beside one of them, which alone are cleared: 50 drives for each of 40 sides. */
    private static PloughDepot longRound(int from, int sidesOfLast) {
        PloughDepot x = Towns.of(52);
        for (int i = 0; i < 50; i++) {
            x.street(i, (i + 1) % 50, 1, true);
            x.sides(i, 0);
        }
        for (int i = 0; i < 20; i++) {
            x.street(from, (from + 1) % 50, 1, true);
            x.sides(50 + i, i == 19 ? sidesOfLast : 2);
        }
        return x;
    }

    // "FULL: above 2000 DRIVES (.. in (B) ahead of each DRIVE)"
    private static void twoThousandDrives() {
        PloughDepot x = longRound(0, 1);
        check.due("round()", x.round(), 1950);
        // a street to 2, past 1: one drive less
        x.street(0, 2, 1, true);
        check.due("round(): just inside", x.round(), 1999);
        check.due("at(1998, 0)", x.at(1998, 0), 49);
        check.due("at(1999, 0)", x.at(1999, 0), NONE);
        x.sides(70, 0);
        x.street(0, 1, 1, true);
        check.due("round(): the most", x.round(), 2000);
        check.due("at(1999, 0)", x.at(1999, 0), 49);
        check.due("at(2000, 0)", x.at(2000, 0), NONE);
        check.due("length(0)", x.length(0), 2000);
        // a street to 1 by 50: one drive more
        x.sides(71, 0);
        x.street(0, 50, 1, true);
        x.street(50, 1, 1, true);
        x.sides(73, 0);
        check.due("round(): just outside", x.round(), FULL);
        check.due("status()", x.status(), FULL);
        check.due("length(0): the round that was", x.length(0), 2000);
        check.due("at(1999, 0)", x.at(1999, 0), 49);
        check.due("undo(): of sides()", x.undo(), 1);
        check.due("told(73, 3)", x.told(73, 3), 1);
        Edges e = new Edges(check, () -> longRound(0, 2), RoundEdgesTest::mark);
        e.changes("round() of 2000", PloughDepot::round, 2000);
        Edges more = new Edges(check, () -> {
            PloughDepot y = longRound(0, 2);
            y.street(50, 51, 1, false);
            y.street(0, 1, 1, true);
            return y;
        }, RoundEdgesTest::mark);
        more.refuses("round() of more than 2000", PloughDepot::round, FULL);
    }

    // the same where the drive that is too much clears
    private static void fullAheadOfAClearingDrive() {
        PloughDepot x = longRound(49, 1);
        check.due("round()", x.round(), 1950);
        x.street(49, 0, 1, true);
        check.due("round(): the last drive clears", x.round(), 2000);
        check.due("at(1999, 3)", x.at(1999, 3), 1);
        check.due("length(2)", x.length(2), 40);
        x.sides(70, 0);
        // from 50, to which it goes from 49: 50 drives, then the one that clears
        x.street(49, 50, 1, true);
        x.sides(71, 0);
        x.street(50, 0, 1, true);
        check.due("round(): the 2001st would clear", x.round(), FULL);
        check.due("length(2): the round that was", x.length(2), 40);
        x.sides(72, 0);
        x.street(48, 0, 1, true);
        check.due("round(): one drive less", x.round(), 1999);
        check.due("at(1998, 3)", x.at(1998, 3), 1);
    }

    // the same where it is one of the way back
    private static void fullOnTheWayBack() {
        PloughDepot x = longRound(0, 2);
        check.due("round()", x.round(), 2000);
        check.due("at(1999, 3): of the way back", x.at(1999, 3), 0);
        // 49 to 0 is shut, and the way goes by 50: one drive more each time
        x.street(49, 50, 1, true);
        x.street(50, 0, 1, true);
        x.sides(70, 0);
        x.sides(71, 0);
        x.shut(49, true);
        check.due("round(): 51 for each", x.round(), FULL);
        x.sides(69, 1);
        check.due("round(): 39 times 51", x.round(), 1989);
        x.shut(49, false);
        check.due("round(): 39 times 50", x.round(), 1950);
    }

    // "FULL .. asked .. ahead of each DRIVE": a way that is not there is met where it is asked for
    private static void noOrFullWhicheverIsMet() {
        PloughDepot x = longRound(0, 1);
        x.street(51, 0, 1, true);
        check.due("round(): 51 cannot be come to, behind 1950 drives", x.round(), NO);
        x.sides(69, 2);
        check.due("round(): behind 2000 less the way back", x.round(), NO);
        x.street(0, 1, 1, true);
        check.due("round(): it is full ahead of that", x.round(), FULL);
        x.sides(70, 0);
        check.due("round(): full as well without that street", x.round(), FULL);
        x.sides(71, 0);
        check.due("round()", x.round(), 2000);
    }

    /** A triangle whose round is made, split and begun, and a street apart. */
    private static PloughDepot begun() {
        PloughDepot x = Towns.of(5, new int[] {0, 1, 50}, new int[] {1, 2, 50}, new int[] {0, 3, 50}, new int[] {3, 4, 50});
        x.shut(3, true);
        x.plough(0, 3);
        x.plough(0, 100);
        x.round();
        x.split();
        x.go(0, 2);
        x.text();
        return x;
    }

    // "What is refused leaves THE ROUND that was."
    private static void refusedLeavesTheRoundThatWas() {
        Edges byPairs = new Edges(check, () -> {
            PloughDepot x = begun();
            x.shut(1, true);
            x.street(2, 4, 1, false);
            return x;
        }, RoundEdgesTest::mark);
        byPairs.refuses("round(): NO by (A)", PloughDepot::round, NO);
        Edges byNearest = new Edges(check, () -> {
            PloughDepot x = begun();
            x.street(2, 4, 1, true);
            return x;
        }, RoundEdgesTest::mark);
        byNearest.refuses("round(): NO by (B)", PloughDepot::round, NO);
        PloughDepot x = begun();
        x.street(2, 4, 1, true);
        int[] partners = new int[5];
        for (int c = 0; c < 5; c++) partners[c] = x.partner(c);
        check.due("round()", x.round(), NO);
        for (int c = 0; c < 5; c++) check.due("partner(" + c + ")", x.partner(c), partners[c]);
        check.due("partner(2)", x.partner(2), 3);
        int[] part = {0, 3, 2, 2, 3, 3, 0, 0, 0};
        for (int what = 0; what < 9; what++) check.due("part(0, " + what + ")", x.part(0, what), part[what]);
        check.due("go(0, 1): its part goes on", x.go(0, 1), 1);
        check.due("text()", x.text(), 6 * 2 + 2);
        check.due("sign(6): the first part's letter", x.sign(6), 'A');
    }

    // "With another ROUND no PLOUGH has a PART."
    private static void anotherRoundTakesTheParts() {
        PloughDepot x = begun();
        check.due("round(): the same one", x.round(), 6);
        for (int p = 0; p < 2; p++) {
            int[] part = {0, 0, 0, 0, 0, p == 0 ? 3 : 100, 0, 0, 0};
            for (int what = 0; what < 9; what++) check.due("part(" + p + ", " + what + ")", x.part(p, what), part[what]);
            check.due("go(" + p + ", 1)", x.go(p, 1), NO);
        }
        check.due("told(0, 2): what is cleared stays", x.told(0, 2), 1);
        check.due("undo()", x.undo(), 1);
        check.due("part(0, 2)", x.part(0, 2), 2);
        check.due("part(1, 0)", x.part(1, 0), 3);
        for (int s = 0; s < 3; s++) x.sides(s, 0);
        check.due("round(): of nothing", x.round(), 0);
        check.due("part(0, 1)", x.part(0, 1), 0);
        check.due("part(1, 4)", x.part(1, 4), 0);
    }

    // "DRIVE i of THE ROUND .. BAD: what; NONE: none such."
    private static void atOfDrives() {
        Edges e = new Edges(check, RoundEdgesTest::begun, RoundEdgesTest::mark);
        for (int what : new int[] {MIN, -1, 4, 5, MAX}) {
            for (int i : new int[] {-1, 0, 5, 6}) e.refuses("at(" + i + ", " + what + "): BAD is ahead of NONE", x -> x.at(i, what), BAD);
        }
        for (int what = 0; what < 4; what++) {
            int asked = what;
            for (int i : new int[] {MIN, -1, 6, 7, 2000, MAX}) e.tells("at(" + i + ", " + what + ")", x -> x.at(i, asked), NONE);
        }
        int[] first = {0, 0, 1, 1};
        int[] last = {2, 3, 0, 0};
        for (int what = 0; what < 4; what++) {
            int asked = what;
            e.tells("at(0, " + what + ")", x -> x.at(0, asked), first[asked]);
            e.tells("at(5, " + what + ")", x -> x.at(5, asked), last[asked]);
        }
        Edges none = edges();
        none.tells("at(0, 0): no round yet", x -> x.at(0, 0), NONE);
        none.refuses("at(0, 4): no round yet", x -> x.at(0, 4), BAD);
    }

    // "Of THE ROUND: 0 DRIVES, .. 6 how it was made .. BAD."
    private static void lengthOfZeroToSix() {
        Edges e = new Edges(check, RoundEdgesTest::begun, RoundEdgesTest::mark);
        for (int what : new int[] {MIN, -1, 7, 8, MAX}) e.refuses("length(" + what + ")", x -> x.length(what), BAD);
        int[] due = {6, 300, 3, 0, 0, 1, 1};
        for (int what = 0; what < 7; what++) {
            int asked = what;
            e.tells("length(" + what + ")", x -> x.length(asked), due[asked]);
        }
        Edges none = edges();
        none.tells("length(6): no round yet", x -> x.length(6), 0);
        none.refuses("length(7): no round yet", x -> x.length(7), BAD);
    }

    // "With which CROSSING a CROSSING was PAIRED in THE ROUND; NONE. BAD."
    private static void partnerOfCrossings() {
        Edges e = new Edges(check, RoundEdgesTest::begun, RoundEdgesTest::mark);
        for (int c : new int[] {MIN, -1, 5, 6, 60, MAX}) e.refuses("partner(" + c + ")", x -> x.partner(c), BAD);
        int[] due = {NONE, NONE, 3, 2, NONE};
        for (int c = 0; c < 5; c++) {
            int asked = c;
            e.tells("partner(" + c + ")", x -> x.partner(asked), due[asked]);
        }
        PloughDepot x = begun();
        x.crossings(2);
        check.due("partner(6): it was not there", x.partner(6), NONE);
        check.due("partner(7)", x.partner(7), BAD);
        x.undo();
        check.due("partner(5)", x.partner(5), BAD);
        check.due("partner(2)", x.partner(2), 3);
    }
}
