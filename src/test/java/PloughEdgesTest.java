/** The edges of promises 20 to 24 and 41, and of PLOUGHS in the terms: each method is a sentence of the document. */
public final class PloughEdgesTest {
    private static final Check check = new Check("PloughEdgesTest");
    private static final int BAD = PloughDepot.BAD, FULL = PloughDepot.FULL, NULL = PloughDepot.NULL, CAST = PloughDepot.CAST;
    private static final int DEEP = PloughDepot.DEEP, NONE = PloughDepot.NONE;
    private static final int MIN = Integer.MIN_VALUE, MAX = Integer.MAX_VALUE;
    private static final int[] SPEED = {50, 30, 45, 20};
    private static final int[] REACH = {200, 600, 200, 400};
    private static final int[] MORE_TAKEN = {0, 0, 2, 1};
    private static final int[] TRACE_OF_TAKES = {1, 1, 21, 11};
    private static final int[] TRACE_OF_PASSES = {100, 1000, 100, 100};
    /** Ploughs of town(). */
    private static final int TRUCK = 0, BLOWER = 1, SALTER = 2, TRACTOR = 3, OUT = 4, PAIR = 7, OUT_PAIR = 10;

    public static void main(String[] args) {
        twelvePloughs();
        kindIsZeroToThree();
        minutesAreZeroToTenThousand();
        newPloughHasNoPart();
        pairOfTwoThatAreThere();
        pairIsNotOfOneTwice();
        pairHasMinutes();
        pairIsFull();
        pairOfOnesThatAreOut();
        pairOfPairs();
        pairMeetsTheFirstFirst();
        pairedOnesAreOutAndHaveNoParts();
        outTellsWhetherItWas();
        outIsForGood();
        asksOfNoSuch();
        asksOfOnesThatAreOut();
        speedAndReach();
        takesAreRoundedUp();
        takesOfPairsAreTheGreater();
        passesUpToReach();
        passesOfPairsUpToBothReaches();
        tooDeepIsAFinding();
        saltOfNoSuch();
        saltByNoSalter();
        saltNotBelowZero();
        traceGoesOn();
        check.end();
    }

    /** A street of drift 120; trucks, blowers and others: 4 is out, 7 is a pair of 5 and 6, 10 a pair of 8 and 9 that is out. */
    private static PloughDepot town() {
        PloughDepot x = Towns.of(3, new int[] {0, 1, 100}, new int[] {1, 2, 1});
        Towns.snow(x, 120);
        for (int kind = 0; kind < 4; kind++) x.plough(kind, 100);
        x.plough(2, 100);
        x.plough(0, 100);
        x.plough(2, 100);
        x.pair(5, 6, 100);
        x.plough(0, 100);
        x.plough(0, 100);
        x.pair(8, 9, 100);
        x.out(OUT);
        x.out(OUT_PAIR);
        return x;
    }

    private static Edges edges() {
        return new Edges(check, PloughEdgesTest::town, x -> x.sides(1, 2));
    }

    private static PloughDepot ploughs(int n) {
        PloughDepot x = Towns.of(2, new int[] {0, 1, 1});
        for (int i = 0; i < n; i++) x.plough(i % 4, i);
        return x;
    }

    // "PLOUGHS 0, 1, .. (12)"
    private static void twelvePloughs() {
        for (int there = 10; there <= 12; there++) {
            int have = there;
            Edges e = new Edges(check, () -> ploughs(have), x -> x.out(have - 1));
            if (there < 12) e.changes("plough behind " + there, x -> x.plough(3, 7), there);
            else e.refuses("plough behind " + there, x -> x.plough(3, 7), FULL);
            e.refuses("plough(4, ..) behind " + there + ": BAD is ahead of FULL", x -> x.plough(4, 7), BAD);
            e.refuses("plough(0, -1) behind " + there + ": BAD is ahead of FULL", x -> x.plough(0, -1), BAD);
            e.tells("part(" + (there - 1) + ", 5)", x -> x.part(have - 1, 5), there - 1);
            e.refuses("part(" + there + ", 5)", x -> x.part(have, 5), BAD);
            e.changes("out(" + (there - 2) + ")", x -> x.out(have - 2), 1);
            e.refuses("out(" + there + ")", x -> x.out(have), BAD);
        }
    }

    // "A PLOUGH of a KIND (0 .. 3)"
    private static void kindIsZeroToThree() {
        Edges e = edges();
        for (int kind : new int[] {MIN, -1, 4, 5, MAX}) e.refuses("plough(" + kind + ", 10)", x -> x.plough(kind, 10), BAD);
        for (int k = 0; k < 4; k++) {
            int kind = k;
            e.changes("plough(" + kind + ", 10)", x -> x.plough(kind, 10), 11);
            PloughDepot x = town();
            x.plough(kind, 10);
            check.due("part(11, 6)", x.part(11, 6), kind);
            check.due("asks(11, 0, 0)", x.asks(11, 0, 0), SPEED[kind]);
        }
    }

    // "with MINUTES (0 .. 10000)"
    private static void minutesAreZeroToTenThousand() {
        Edges e = edges();
        for (int minutes : new int[] {MIN, -1, 10001, 10002, MAX}) e.refuses("plough(0, " + minutes + ")", x -> x.plough(0, minutes), BAD);
        for (int minutes : new int[] {0, 1, 9999, 10000}) {
            e.changes("plough(0, " + minutes + ")", x -> x.plough(0, minutes), 11);
            PloughDepot x = town();
            x.plough(0, minutes);
            check.due("part(11, 5)", x.part(11, 5), minutes);
        }
    }

    private static void newPloughHasNoPart() {
        PloughDepot x = town();
        x.round();
        x.split();
        // what another plough at this number was must not stay
        x.plough(1, 5);
        x.undo();
        x.plough(3, 77);
        int[] due = {0, 0, 0, 0, 0, 77, 3, 0, 0};
        for (int what = 0; what < 9; what++) check.due("part(11, " + what + ")", x.part(11, what), due[what]);
        check.due("go(11, 1)", x.go(11, 1), PloughDepot.NO);
    }

    // "A PAIR of two PLOUGHS .. BAD"
    private static void pairOfTwoThatAreThere() {
        Edges e = edges();
        for (int p : new int[] {MIN, -1, 11, 12, MAX}) {
            e.refuses("pair(" + p + ", 0, 5)", x -> x.pair(p, TRUCK, 5), BAD);
            e.refuses("pair(0, " + p + ", 5)", x -> x.pair(TRUCK, p, 5), BAD);
            e.refuses("pair(" + p + ", 4, 5): BAD is ahead of NULL", x -> x.pair(p, OUT, 5), BAD);
            e.refuses("pair(7, " + p + ", 5): BAD is ahead of CAST", x -> x.pair(PAIR, p, 5), BAD);
        }
        e.changes("pair(0, 3, 5)", x -> x.pair(TRUCK, TRACTOR, 5), 11);
        e.changes("pair(3, 0, 5)", x -> x.pair(TRACTOR, TRUCK, 5), 11);
    }

    // "BAD: also p twice"
    private static void pairIsNotOfOneTwice() {
        Edges e = edges();
        for (int p = 0; p < 11; p++) {
            int same = p;
            e.refuses("pair(" + p + ", " + p + ", 5)", x -> x.pair(same, same, 5), BAD);
        }
    }

    private static void pairHasMinutes() {
        Edges e = edges();
        for (int minutes : new int[] {MIN, -1, 10001, MAX}) {
            e.refuses("pair(0, 1, " + minutes + ")", x -> x.pair(TRUCK, BLOWER, minutes), BAD);
            e.refuses("pair(4, 1, " + minutes + "): BAD is ahead of NULL", x -> x.pair(OUT, BLOWER, minutes), BAD);
        }
        for (int minutes : new int[] {0, 1, 10000}) {
            e.changes("pair(0, 1, " + minutes + ")", x -> x.pair(TRUCK, BLOWER, minutes), 11);
            PloughDepot x = town();
            x.pair(TRUCK, BLOWER, minutes);
            check.due("part(11, 5)", x.part(11, 5), minutes);
            check.due("part(11, 6)", x.part(11, 6), 4);
        }
    }

    // "FULL": ahead of NULL and CAST, behind BAD
    private static void pairIsFull() {
        Edges eleven = edges();
        eleven.changes("pair(0, 1, 5): the twelfth", x -> x.pair(TRUCK, BLOWER, 5), 11);
        Edges twelve = new Edges(check, () -> {
            PloughDepot x = town();
            x.plough(0, 1);
            return x;
        }, x -> x.sides(1, 2));
        twelve.refuses("pair(0, 1, 5) of 12", x -> x.pair(TRUCK, BLOWER, 5), FULL);
        twelve.refuses("pair(4, 1, 5) of 12: FULL is ahead of NULL", x -> x.pair(OUT, BLOWER, 5), FULL);
        twelve.refuses("pair(7, 1, 5) of 12: FULL is ahead of CAST", x -> x.pair(PAIR, BLOWER, 5), FULL);
        twelve.refuses("pair(0, 0, 5) of 12: BAD is ahead of FULL", x -> x.pair(TRUCK, TRUCK, 5), BAD);
        twelve.refuses("pair(0, 12, 5) of 12: BAD is ahead of FULL", x -> x.pair(TRUCK, 12, 5), BAD);
        twelve.refuses("pair(0, 1, -1) of 12: BAD is ahead of FULL", x -> x.pair(TRUCK, BLOWER, -1), BAD);
        twelve.tells("part(0, 6): still there", x -> x.part(TRUCK, 6), 0);
    }

    // "NULL .. p, then q"
    private static void pairOfOnesThatAreOut() {
        Edges e = edges();
        e.refuses("pair(4, 0, 5)", x -> x.pair(OUT, TRUCK, 5), NULL);
        e.refuses("pair(0, 4, 5)", x -> x.pair(TRUCK, OUT, 5), NULL);
        e.refuses("pair(4, 5, 5): both are out, one finding", x -> x.pair(OUT, 5, 5), NULL);
        e.refuses("pair(5, 0, 5): one of a pair is out", x -> x.pair(5, TRUCK, 5), NULL);
        e.refuses("pair(10, 0, 5): a pair that is out is out", x -> x.pair(OUT_PAIR, TRUCK, 5), NULL);
        e.refuses("pair(0, 10, 5): a pair that is out is out", x -> x.pair(TRUCK, OUT_PAIR, 5), NULL);
    }

    // "CAST (a PAIR)"
    private static void pairOfPairs() {
        Edges e = edges();
        e.refuses("pair(7, 0, 5)", x -> x.pair(PAIR, TRUCK, 5), CAST);
        e.refuses("pair(0, 7, 5)", x -> x.pair(TRUCK, PAIR, 5), CAST);
        for (int kind = 0; kind < 4; kind++) {
            int p = kind, q = (kind + 1) % 4;
            e.changes("pair(" + p + ", " + q + ", 5)", x -> x.pair(p, q, 5), 11);
        }
    }

    // "p, then q"
    private static void pairMeetsTheFirstFirst() {
        Edges e = edges();
        e.refuses("pair(7, 4, 5): p is a pair, q is out", x -> x.pair(PAIR, OUT, 5), CAST);
        e.refuses("pair(4, 7, 5): p is out, q is a pair", x -> x.pair(OUT, PAIR, 5), NULL);
        e.refuses("pair(7, 10, 5): p is a pair, q is a pair that is out", x -> x.pair(PAIR, OUT_PAIR, 5), CAST);
        e.refuses("pair(10, 7, 5): p is a pair that is out, q is a pair", x -> x.pair(OUT_PAIR, PAIR, 5), NULL);
    }

    // "which are OUT then (and have no PARTS)"
    private static void pairedOnesAreOutAndHaveNoParts() {
        PloughDepot x = Towns.of(4, new int[] {0, 1, 50}, new int[] {1, 2, 50}, new int[] {2, 3, 50}, new int[] {3, 0, 50});
        for (int i = 0; i < 3; i++) x.plough(0, i == 2 ? 100 : 1);
        x.round();
        x.split();
        x.go(1, 1);
        check.due("pair(1, 1, 5): refused", x.pair(1, 1, 5), BAD);
        check.due("part(1, 2): it leaves the parts", x.part(1, 2), 1);
        check.due("pair(1, 0, 5)", x.pair(1, 0, 5), 3);
        for (int p = 0; p < 2; p++) {
            int[] due = {0, 0, 0, 0, 0, 1, NONE, 0, 0};
            for (int what = 0; what < 9; what++) check.due("part(" + p + ", " + what + ")", x.part(p, what), due[what]);
            check.due("asks(" + p + ", 0, 0)", x.asks(p, 0, 0), NULL);
            check.due("go(" + p + ", 1)", x.go(p, 1), NULL);
            check.due("salt(" + p + ", 0)", x.salt(p, 0), NULL);
        }
        int[] third = {2, 2, 0, 0, 2, 100, 0, 0, 0};
        for (int what = 0; what < 9; what++) check.due("part(2, " + what + "): of another one", x.part(2, what), third[what]);
        int[] pair = {0, 0, 0, 0, 0, 5, 4, 0, 0};
        for (int what = 0; what < 9; what++) check.due("part(3, " + what + ")", x.part(3, what), pair[what]);
        check.due("asks(3, 0, 0): the pair asks them itself", x.asks(3, 0, 0), 50);
    }

    // "A PLOUGH is OUT for good (and has no PART): 1; 0: it was. A CHANGE. BAD."
    private static void outTellsWhetherItWas() {
        Edges e = edges();
        for (int p : new int[] {MIN, -1, 11, 12, MAX}) e.refuses("out(" + p + ")", x -> x.out(p), BAD);
        e.changes("out(0)", x -> x.out(TRUCK), 1);
        e.changes("out(7): a pair", x -> x.out(PAIR), 1);
        e.changes("out(4): it was", x -> x.out(OUT), 0);
        e.changes("out(5): it was, as one of a pair", x -> x.out(5), 0);
        e.changes("out(10): it was", x -> x.out(OUT_PAIR), 0);
    }

    private static void outIsForGood() {
        PloughDepot x = town();
        x.out(PAIR);
        check.due("part(5, 6): its ploughs do not come back", x.part(5, 6), NONE);
        check.due("asks(5, 0, 0)", x.asks(5, 0, 0), NULL);
        x.round();
        x.split();
        check.due("part(7, 6)", x.part(PAIR, 6), NONE);
        check.due("part(7, 1): none has a part", x.part(PAIR, 1), 0);
        check.due("part(7, 5): its minutes stay", x.part(PAIR, 5), 100);
        check.due("out(7)", x.out(PAIR), 0);
    }

    // "Asks a PLOUGH: 0 SPEED, .. 3 PASSES of its DRIFT. BAD"
    private static void asksOfNoSuch() {
        Edges e = edges();
        for (int p : new int[] {MIN, -1, 11, 12, MAX}) {
            for (int what = 0; what < 4; what++) {
                int asked = what;
                e.refuses("asks(" + p + ", 0, " + what + ")", x -> x.asks(p, 0, asked), BAD);
            }
        }
        for (int s : new int[] {MIN, -1, 2, 150, MAX}) {
            for (int what = 0; what < 4; what++) {
                int asked = what;
                e.refuses("asks(0, " + s + ", " + what + ")", x -> x.asks(TRUCK, s, asked), BAD);
            }
            e.refuses("asks(4, " + s + ", 0): BAD is ahead of NULL", x -> x.asks(OUT, s, 0), BAD);
        }
        for (int what : new int[] {MIN, -1, 4, 5, MAX}) {
            e.refuses("asks(0, 0, " + what + ")", x -> x.asks(TRUCK, 0, what), BAD);
            e.refuses("asks(4, 0, " + what + "): BAD is ahead of NULL", x -> x.asks(OUT, 0, what), BAD);
        }
        e.tells("asks(0, 1, 0)", x -> x.asks(TRUCK, 1, 0), 50);
        e.tells("asks(3, 0, 3)", x -> x.asks(TRACTOR, 0, 3), 1, 100);
    }

    // "NULL": nothing of it runs
    private static void asksOfOnesThatAreOut() {
        Edges e = edges();
        for (int p : new int[] {OUT, 5, 6, OUT_PAIR}) {
            for (int what = 0; what < 4; what++) {
                int asked = what;
                e.refuses("asks(" + p + ", 0, " + what + ")", x -> x.asks(p, 0, asked), NULL);
            }
        }
    }

    // "A PAIR: the lesser SPEED, both REACHES together."
    private static void speedAndReach() {
        for (int p = 0; p < 4; p++) {
            for (int q = 0; q < 4; q++) {
                PloughDepot x = Towns.of(2, new int[] {0, 1, 1});
                x.plough(p, 1);
                x.plough(q, 1);
                check.due("asks(0, 0, 0) of kind " + p, x.asks(0, 0, 0), SPEED[p]);
                check.due("asks(0, 0, 1) of kind " + p, x.asks(0, 0, 1), REACH[p]);
                x.pair(0, 1, 1);
                check.due("asks(2, 0, 0) of " + p + " and " + q, x.asks(2, 0, 0), Math.min(SPEED[p], SPEED[q]));
                check.due("asks(2, 0, 1) of " + p + " and " + q, x.asks(2, 0, 1), REACH[p] + REACH[q]);
                check.due("trace()", x.trace(), 0);
            }
        }
    }

    private static int takes(int kind, int length) {
        return (length + SPEED[kind] - 1) / SPEED[kind] + MORE_TAKEN[kind];
    }

    // "TAKES of a LENGTH: LENGTH / SPEED, rounded up (1). TRACTOR: 1 more than that (10, and 1). SALTER: 2 more than that (20, and 1)."
    private static void takesAreRoundedUp() {
        for (int kind = 0; kind < 4; kind++) {
            for (int length : new int[] {1, SPEED[kind] - 1, SPEED[kind], SPEED[kind] + 1, 2 * SPEED[kind], 2 * SPEED[kind] + 1, 9999, 10000}) {
                PloughDepot x = Towns.of(2, new int[] {0, 1, length});
                x.plough(kind, 0);
                check.due("asks(0, 0, 2) of kind " + kind + ", " + length, x.asks(0, 0, 2), takes(kind, length));
                check.due("trace()", x.trace(), TRACE_OF_TAKES[kind]);
            }
        }
        int[][] due = {{50, 1}, {51, 2}, {10000, 200}};
        for (int[] d : due) {
            PloughDepot x = Towns.of(2, new int[] {0, 1, d[0]});
            x.plough(0, 0);
            check.due("a truck takes of " + d[0], x.asks(0, 0, 2), d[1]);
        }
    }

    // "PAIR: the greater of what both TAKE, the first asked first (5, and theirs)."
    private static void takesOfPairsAreTheGreater() {
        for (int p = 0; p < 4; p++) {
            for (int q = 0; q < 4; q++) {
                for (int length : new int[] {1, 20, 21, 30, 31, 90, 91, 180, 181, 10000}) {
                    PloughDepot x = Towns.of(2, new int[] {0, 1, length});
                    x.plough(p, 0);
                    x.plough(q, 0);
                    x.pair(0, 1, 0);
                    check.due("asks(2, 0, 2) of " + p + " and " + q + ", " + length, x.asks(2, 0, 2), Math.max(takes(p, length), takes(q, length)));
                    check.due("trace()", x.trace(), 5 + TRACE_OF_TAKES[p] + TRACE_OF_TAKES[q]);
                }
            }
        }
    }

    private static void passes(String who, PloughDepot x, int plough, int due, int traced) {
        int trace = x.trace();
        check.due(who + ": asks(.., 3)", x.asks(plough, 0, 3), due);
        check.due(who + ": status()", x.status(), due == DEEP ? DEEP : 0);
        check.due(who + ": findings(4)", x.findings(4), due == DEEP ? 1 : 0);
        check.due(who + ": trace()", x.trace() - trace, traced);
    }

    // "PASSES of a DRIFT: 1 up to REACH, 2 up to twice REACH, else it is TOO DEEP (100). BLOWER: 1 up to REACH, 3 up to three times that, else TOO DEEP"
    private static void passesUpToReach() {
        for (int kind = 0; kind < 4; kind++) {
            int most = kind == 1 ? 3 : 2;
            int reach = REACH[kind];
            int[] drifts = {0, 1, reach - 1, reach, reach + 1, 2 * reach - 1, 2 * reach, 2 * reach + 1, 3 * reach - 1, 3 * reach, 3 * reach + 1, 32766};
            for (int drift : drifts) {
                PloughDepot x = Towns.drifted(drift);
                x.plough(kind, 0);
                int due = drift <= reach ? 1 : drift <= most * reach ? most : DEEP;
                passes("kind " + kind + ", " + drift, x, 0, due, TRACE_OF_PASSES[kind]);
            }
        }
    }

    // "PAIR: 1 up to its REACH, 2 up to twice that, else TOO DEEP (10000)."
    private static void passesOfPairsUpToBothReaches() {
        for (int p = 0; p < 4; p++) {
            for (int q = 0; q < 4; q++) {
                int reach = REACH[p] + REACH[q];
                for (int drift : new int[] {0, reach - 1, reach, reach + 1, 2 * reach, 2 * reach + 1, 3 * reach}) {
                    PloughDepot x = Towns.drifted(drift);
                    x.plough(p, 0);
                    x.plough(q, 0);
                    x.pair(0, 1, 0);
                    passes("a pair of " + p + " and " + q + ", " + drift, x, 2, drift <= reach ? 1 : drift <= 2 * reach ? 2 : DEEP, 10000);
                }
            }
        }
    }

    // "DEEP: TOO DEEP (a FINDING)": its body ran
    private static void tooDeepIsAFinding() {
        Edges e = new Edges(check, () -> {
            PloughDepot x = Towns.drifted(2001);
            for (int kind = 0; kind < 4; kind++) x.plough(kind, 1);
            for (int kind = 0; kind < 4; kind++) x.plough(kind, 1);
            x.pair(5, 7, 1);
            return x;
        }, x -> x.sides(0, 2));
        for (int kind = 0; kind < 4; kind++) {
            int p = kind;
            e.refuses("asks(" + p + ", 0, 3)", x -> x.asks(p, 0, 3), DEEP, TRACE_OF_PASSES[p]);
        }
        e.refuses("asks(8, 0, 3)", x -> x.asks(8, 0, 3), DEEP, 10000);
        e.tells("asks(0, 0, 2): not too deep to be driven", x -> x.asks(0, 0, 2), 20, 1);
    }

    // "A SALTER salts a STREET .. BAD; NULL"
    private static void saltOfNoSuch() {
        Edges e = edges();
        for (int p : new int[] {MIN, -1, 11, 12, MAX}) e.refuses("salt(" + p + ", 0)", x -> x.salt(p, 0), BAD);
        for (int s : new int[] {MIN, -1, 2, 150, MAX}) {
            e.refuses("salt(2, " + s + ")", x -> x.salt(SALTER, s), BAD);
            e.refuses("salt(4, " + s + "): BAD is ahead of NULL", x -> x.salt(OUT, s), BAD);
            e.refuses("salt(0, " + s + "): BAD is ahead of CAST", x -> x.salt(TRUCK, s), BAD);
        }
        e.refuses("salt(4, 0)", x -> x.salt(OUT, 0), NULL);
        e.refuses("salt(6, 0): a salter of a pair", x -> x.salt(6, 0), NULL);
        e.refuses("salt(5, 0): NULL is met ahead of CAST", x -> x.salt(5, 0), NULL);
        e.refuses("salt(10, 0): NULL is met ahead of CAST", x -> x.salt(OUT_PAIR, 0), NULL);
    }

    // "CAST: it is no SALTER"
    private static void saltByNoSalter() {
        Edges e = edges();
        for (int p : new int[] {TRUCK, BLOWER, TRACTOR, PAIR}) e.refuses("salt(" + p + ", 0)", x -> x.salt(p, 0), CAST);
        e.changes("salt(2, 0)", x -> x.salt(SALTER, 0), 70);
        e.changes("salt(2, 1)", x -> x.salt(SALTER, 1), 70);
    }

    // "its DRIFT becomes 50 less, not below 0: DRIFT then"
    private static void saltNotBelowZero() {
        for (int drift : new int[] {0, 1, 49, 50, 51, 99, 100, 101}) {
            PloughDepot x = Towns.drifted(drift);
            x.plough(2, 0);
            check.due("salt(0, 0) of " + drift, x.salt(0, 0), Math.max(0, drift - 50));
            check.due("told(0, 0)", x.told(0, 0), Math.max(0, drift - 50));
            check.due("told(0, 2): it clears no side", x.told(0, 2), 0);
            check.due("trace(): no body of TAKES or PASSES", x.trace(), 0);
            check.due("undo()", x.undo(), 1);
            check.due("told(0, 0)", x.told(0, 0), drift);
        }
    }

    // "BODIES that run are summed up in THE TRACE"; undo() gives none of it back
    private static void traceGoesOn() {
        PloughDepot x = town();
        check.due("trace()", x.trace(), 0);
        int due = 0;
        for (int n = 0; n < 20; n++) {
            x.asks(PAIR, 0, 3);
            x.asks(PAIR, 0, 2);
            due += 10000 + 5 + 1 + 21;
            check.due("trace()", x.trace(), due);
        }
        check.due("asks(0, 0, 9)", x.asks(TRUCK, 0, 9), BAD);
        check.due("trace()", x.trace(), due);
        check.due("status(): not of trace()", x.status(), BAD);
        x.undo();
        check.due("trace(): undo() takes none back", x.trace(), due);
    }
}
