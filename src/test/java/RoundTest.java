/** Promises 25 to 30: odd crossings, least pairings and the round. */
public final class RoundTest {
    private static final Check check = new Check("RoundTest");

    public static void main(String[] args) {
        odd();
        least();
        refusedLeast();
        nothingToClear();
        square();
        sidesOfStreets();
        lastStreetBack();
        joining();
        joiningTies();
        joiningTwice();
        refusedRound();
        pairTies();
        pairsOfFourteen();
        exchanges();
        nearestFirst();
        nearestTies();
        manySides();
        noWay();
        twoThousand();
        at();
        lengthAndPartner();
        check.end();
    }

    private static void drives(String what, PloughDepot x, int... streets) {
        check.due(what + ": length(0)", x.length(0), streets.length);
        for (int i = 0; i < streets.length; i++) check.due(what + ": at(" + i + ", 0)", x.at(i, 0), streets[i]);
        int at = 0;
        for (int i = 0; i < streets.length; i++) {
            check.due(what + ": at(" + i + ", 1) goes on", x.at(i, 1), at);
            at = x.at(i, 2);
        }
        check.due(what + ": it ends at the depot", at, 0);
    }

    private static void clears(String what, PloughDepot x, int... clears) {
        for (int i = 0; i < clears.length; i++) check.due(what + ": at(" + i + ", 3)", x.at(i, 3), clears[i]);
    }

    private static void odd() {
        PloughDepot x = Towns.of(5, new int[] {0, 1, 1}, new int[] {1, 2, 1}, new int[] {1, 3, 1}, new int[] {3, 4, 1});
        // 0, 1, 2, 4 are odd
        int[] due = {0, 1, 2, 4, PloughDepot.NONE};
        for (int i = 0; i < due.length; i++) check.due("odd(" + i + ")", x.odd(i), due[i]);
        check.due("odd(-1)", x.odd(-1), PloughDepot.NONE);
        check.due("odd(MAX)", x.odd(Integer.MAX_VALUE), PloughDepot.NONE);
        check.due("odd(MIN)", x.odd(Integer.MIN_VALUE), PloughDepot.NONE);
        check.due("status()", x.status(), 0);
        x.oneWay(0, true);
        check.due("odd(0): whatever their ways", x.odd(0), 0);
        x.sides(0, 2);
        check.due("odd(0): two sides", x.odd(0), 2);
        check.due("odd(1)", x.odd(1), 4);
        x.sides(1, 0);
        check.due("odd(0): no sides", x.odd(0), 1);
        x.shut(3, true);
        check.due("odd(1): a street is shut", x.odd(1), 3);
        check.due("odd(2)", x.odd(2), PloughDepot.NONE);
        x.undo();
        check.due("odd(1)", x.odd(1), 4);
    }

    /** A star: 0 is joined with 1 .. n, by lengths 1 .. n. */
    private static PloughDepot star(int n) {
        PloughDepot x = Towns.of(n + 1);
        for (int i = 1; i <= n; i++) x.street(0, i, i, false);
        return x;
    }

    private static void least() {
        PloughDepot x = star(4);
        x.street(1, 2, 1, false);
        x.sides(4, 0);
        check.due("least(0)", x.least(0), 0);
        check.due("least(1 and 2)", x.least(3), 1);
        check.due("least(1 and 3)", x.least(5), 4);
        check.due("least(2 and 3): by 1", x.least(6), 5);
        check.due("least(3 and 4)", x.least(12), 7);
        check.due("least(all)", x.least(15), 8);
        check.due("least of an odd number", x.least(7), PloughDepot.NO);
        check.due("least of one", x.least(1), PloughDepot.NO);
        check.due("status()", x.status(), PloughDepot.NO);
        check.due("least(16)", x.least(16), PloughDepot.BAD);
        check.due("least(-1)", x.least(-1), PloughDepot.BAD);
        check.due("least(MIN)", x.least(Integer.MIN_VALUE), PloughDepot.BAD);
        x.shut(4, true);
        check.due("least(1 and 2): the street is shut", x.least(3), 3);
        x.undo();
        check.due("least(1 and 2): undone", x.least(3), 1);
        x.sides(3, 2);
        // now 0, 1, 2, 3 are odd
        check.due("least(0 and 1)", x.least(3), 1);
        check.due("least(1 and 3)", x.least(10), 4);
    }

    private static void refusedLeast() {
        PloughDepot x = Towns.of(4, new int[] {0, 1, 5}, new int[] {2, 3, 7});
        check.due("least(0 and 1)", x.least(3), 5);
        check.due("least(0 and 2): no way", x.least(5), PloughDepot.NO);
        check.due("least(all)", x.least(15), 12);
        check.due("least(0, 1, 2): an odd number", x.least(7), PloughDepot.NO);
        x.oneWay(0, true);
        check.due("least(0): a street is one way", x.least(0), PloughDepot.BAD);
        x.shut(0, true);
        check.due("least(2 and 3): it is shut", x.least(3), 7);
        check.due("least of 14", star(14).least((1 << 14) - 1), 105);
        check.due("least of 14, another bit", star(14).least(1 << 14), PloughDepot.BAD);
        check.due("least of 16", star(16).least(3), PloughDepot.BAD);
        check.due("least of 16, none", star(16).least(0), PloughDepot.BAD);
        check.due("least of 59 and the depot", star(59).least(0), PloughDepot.BAD);
    }

    private static void nothingToClear() {
        PloughDepot x = new PloughDepot();
        check.due("round(): no crossings", x.round(), 0);
        check.due("length(6)", x.length(6), 1);
        check.due("undo(): it was a change", x.undo(), 1);
        check.due("length(6)", x.length(6), 0);
        x = Towns.of(3, new int[] {0, 1, 1}, new int[] {1, 2, 1});
        x.sides(0, 0);
        x.shut(1, true);
        check.due("round(): nothing to be cleared", x.round(), 0);
        check.due("length(6)", x.length(6), 1);
        x.oneWay(0, true);
        check.due("round(): nothing to be cleared, one way", x.round(), 0);
        check.due("length(6)", x.length(6), 2);
        x.oneWay(1, true);
        x.oneWay(0, false);
        check.due("round(): one way, but shut", x.round(), 0);
        check.due("length(6)", x.length(6), 1);
    }

    private static void square() {
        PloughDepot x = Towns.of(4, new int[] {0, 1, 1}, new int[] {1, 2, 2}, new int[] {2, 3, 4}, new int[] {3, 0, 8});
        check.due("round()", x.round(), 4);
        drives("square", x, 0, 1, 2, 3);
        clears("square", x, 1, 1, 1, 1);
        int[] due = {4, 15, 4, 0, 0, 0, 1};
        for (int what = 0; what < 7; what++) check.due("square: length(" + what + ")", x.length(what), due[what]);
        check.due("square: at(3, 1)", x.at(3, 1), 3);
        check.due("square: at(3, 2)", x.at(3, 2), 0);
    }

    private static void sidesOfStreets() {
        PloughDepot x = Towns.of(2, new int[] {0, 1, 3});
        x.round();
        drives("one side", x, 0, 0);
        clears("one side", x, 1, 0);
        check.due("partner(0)", x.partner(0), 1);
        x.sides(0, 2);
        check.due("partner(0): of the round", x.partner(0), 1);
        x.round();
        drives("two sides", x, 0, 0);
        clears("two sides", x, 1, 1);
        check.due("partner(0)", x.partner(0), PloughDepot.NONE);
        check.due("length(2)", x.length(2), 2);
    }

    private static void lastStreetBack() {
        // behind 0 the least street at 1 is 1, but it would leave 2 and 3 behind
        PloughDepot x = Towns.of(3, new int[] {0, 1, 1}, new int[] {1, 0, 1}, new int[] {1, 2, 1}, new int[] {2, 1, 1});
        x.round();
        drives("back last", x, 0, 2, 3, 1);
        // at 0, street 0 is driven out and at once back
        x = Towns.of(4, new int[] {1, 0, 1}, new int[] {0, 2, 1}, new int[] {2, 3, 1}, new int[] {3, 0, 1});
        x.round();
        drives("dead end", x, 0, 0, 1, 2, 3);
        clears("dead end", x, 1, 0, 1, 1, 1);
    }

    private static void joining() {
        PloughDepot x = Towns.of(5, new int[] {0, 1, 1}, new int[] {2, 3, 1}, new int[] {1, 2, 9}, new int[] {0, 4, 3}, new int[] {4, 3, 4});
        for (int s = 2; s < 5; s++) x.sides(s, 0);
        // from 0 to 3 by 4 it is 7, from 1 to 2 it is 9
        check.due("round()", x.round(), 8);
        drives("joining", x, 0, 0, 3, 4, 1, 1, 4, 3);
        clears("joining", x, 1, 0, 0, 0, 1, 0, 0, 0);
        check.due("length(3)", x.length(3), 1);
        check.due("length(5)", x.length(5), 2);
        check.due("length(1)", x.length(1), 18);
    }

    private static void joiningTies() {
        // ways of length 5: 1 to 2, 0 to 3, 0 to 2
        PloughDepot x = Towns.of(4, new int[] {0, 1, 1}, new int[] {2, 3, 1}, new int[] {1, 2, 5}, new int[] {0, 3, 5}, new int[] {0, 2, 5});
        for (int s = 2; s < 5; s++) x.sides(s, 0);
        x.round();
        drives("least last", x, 0, 0, 4, 1, 1, 4);
        x.shut(4, true);
        x.round();
        drives("least first", x, 0, 0, 3, 1, 1, 3);
        x.shut(3, true);
        x.round();
        drives("only one", x, 0, 2, 1, 1, 2, 0);
    }

    private static void joiningTwice() {
        // nothing is at the depot; 2 - 3 is nearer, and 4 - 5 is joined from there
        PloughDepot x = Towns.of(6, new int[] {2, 3, 1}, new int[] {4, 5, 1}, new int[] {0, 1, 1}, new int[] {1, 2, 1}, new int[] {3, 4, 5}, new int[] {0, 4, 9});
        for (int s = 2; s < 6; s++) x.sides(s, 0);
        check.due("round()", x.round(), 10);
        drives("joined twice", x, 2, 3, 0, 4, 1, 1, 4, 0, 3, 2);
        check.due("length(3)", x.length(3), 2);
        check.due("length(5)", x.length(5), 2);
    }

    private static void refusedRound() {
        PloughDepot x = Towns.of(4, new int[] {0, 1, 1}, new int[] {2, 3, 1}, new int[] {1, 2, 1});
        check.due("round()", x.round(), 6);
        x.plough(0, 100);
        x.split();
        x.shut(2, true);
        check.due("round(): no way", x.round(), PloughDepot.NO);
        check.due("status()", x.status(), PloughDepot.NO);
        check.due("length(0): the round that was", x.length(0), 6);
        check.due("at(1, 0)", x.at(1, 0), 2);
        check.due("part(0, 1): the part that was", x.part(0, 1), 6);
        check.due("undo(): of shut()", x.undo(), 1);
        check.due("told(2, 4)", x.told(2, 4), 0);
        check.due("round()", x.round(), 6);
        check.due("part(0, 1): no part with another round", x.part(0, 1), 0);
        check.due("undo()", x.undo(), 1);
        check.due("part(0, 1)", x.part(0, 1), 6);
    }

    private static void pairTies() {
        // all ways between 1, 2, 3, 4 are 4 long
        PloughDepot x = Towns.of(5, new int[] {0, 4, 2}, new int[] {0, 3, 2}, new int[] {0, 2, 2}, new int[] {0, 1, 2});
        check.due("round()", x.round(), 8);
        int[] partners = {PloughDepot.NONE, 2, 1, 4, 3};
        for (int c = 0; c < 5; c++) check.due("partner(" + c + ")", x.partner(c), partners[c]);
        check.due("length(5)", x.length(5), 2);
        check.due("length(4)", x.length(4), 0);
        // 1 with 2 and 3 with 4 would be 101 together, 1 with 3 and 2 with 4 are 6
        x.street(1, 3, 3, false);
        x.street(2, 4, 3, false);
        x.sides(4, 0);
        x.sides(5, 0);
        x.round();
        check.due("partner(1): the least together", x.partner(1), 3);
        check.due("partner(4)", x.partner(4), 2);
        drives("least pairs", x, 0, 5, 2, 1, 4, 3);
    }

    /** Two ends of a street of length 1000, with leaves of length 1 at them, as told by 0 and 1. */
    private static PloughDepot comb(int... ends) {
        PloughDepot x = Towns.of(2 + ends.length, new int[] {0, 1, 1000});
        x.sides(0, 2);
        for (int i = 0; i < ends.length; i++) x.street(ends[i], i + 2, 1, false);
        return x;
    }

    private static void partners(String what, PloughDepot x, int... pairs) {
        for (int i = 0; i < pairs.length; i += 2) {
            check.due(what + ": partner(" + pairs[i] + ")", x.partner(pairs[i]), pairs[i + 1]);
            check.due(what + ": partner(" + pairs[i + 1] + ")", x.partner(pairs[i + 1]), pairs[i]);
        }
        check.due(what + ": length(5)", x.length(5), pairs.length / 2);
    }

    private static void pairsOfFourteen() {
        PloughDepot x = comb(0, 1, 0, 1, 0, 1, 0, 1, 0, 1, 0, 1, 0, 0);
        check.due("round()", x.round(), 30);
        partners("fourteen", x, 2, 4, 3, 5, 6, 8, 7, 9, 10, 12, 11, 13, 14, 15);
        check.due("length(4): no exchanges", x.length(4), 0);
    }

    private static void exchanges() {
        PloughDepot x = comb(0, 1, 0, 1, 0, 1, 0, 1, 0, 1, 0, 1, 0, 1, 0, 1);
        check.due("round()", x.round(), 34);
        partners("p with r", x, 2, 4, 3, 5, 6, 8, 7, 9, 10, 12, 11, 13, 14, 16, 15, 17);
        check.due("length(4)", x.length(4), 4);
        x = comb(0, 1, 1, 0, 0, 0, 1, 1, 0, 1, 1, 0, 1, 0, 0, 1);
        x.round();
        // (2, 3) and (4, 5) become (2, 5) and (3, 4), and so do the others
        partners("p with s", x, 2, 5, 3, 4, 6, 7, 8, 9, 10, 13, 11, 12, 14, 17, 15, 16);
        check.due("length(4)", x.length(4), 3);
        check.due("sixteen of a star: none", star(16).length(4), 0);
        x = star(16);
        x.round();
        partners("star", x, 1, 2, 3, 4, 5, 6, 7, 8, 9, 10, 11, 12, 13, 14, 15, 16);
        check.due("length(4)", x.length(4), 0);
        x = star(59);
        check.due("round(): 60 are odd", x.round(), 2 * 59);
        check.due("length(5)", x.length(5), 30);
        check.due("partner(59)", x.partner(59), 58);
        // (2, 3) stands apart from (4, 5): only the second pair behind it can be exchanged with the first
        x = comb(0, 1, 0, 0, 1, 0, 0, 0, 0, 0, 0, 0, 0, 0, 0, 0);
        x.round();
        partners("i, then j", x, 2, 7, 3, 6, 4, 5, 8, 9, 10, 11, 12, 13, 14, 15, 16, 17);
        check.due("length(4)", x.length(4), 1);
        check.due("length(3)", x.length(3), 0);
    }

    private static void nearestFirst() {
        // a ring of one-way streets 0, 1, 2 and a street 3 both ways from 1 to 3
        PloughDepot x = Towns.of(4);
        x.street(0, 1, 10, true);
        x.street(1, 2, 10, true);
        x.street(2, 0, 10, true);
        x.street(3, 1, 4, false);
        check.due("round()", x.round(), 8);
        // at 1 street 1 is as near as street 3; then 3 is come to again
        drives("nearest", x, 0, 1, 2, 0, 3, 3, 1, 2);
        clears("nearest", x, 1, 1, 1, 0, 1, 0, 0, 0);
        int[] due = {8, 68, 4, 0, 0, 0, 2};
        for (int what = 0; what < 7; what++) check.due("nearest: length(" + what + ")", x.length(what), due[what]);
        for (int c = 0; c < 4; c++) check.due("partner(" + c + ")", x.partner(c), PloughDepot.NONE);
        x.sides(3, 2);
        x.sides(1, 0);
        x.round();
        drives("two sides", x, 0, 3, 3, 1, 2);
        clears("two sides", x, 1, 1, 1, 0, 1);
    }

    private static void nearestTies() {
        // from 0 both ends of street 1 are 5 away: a, which is 2, is ahead of b
        PloughDepot x = Towns.of(4);
        x.street(0, 1, 5, false);
        x.street(2, 1, 7, false);
        x.street(0, 2, 5, false);
        x.street(0, 3, 1, true);
        x.street(3, 0, 1, true);
        for (int s : new int[] {0, 2, 3, 4}) x.sides(s, 0);
        x.round();
        drives("a ahead of b", x, 2, 1, 0);
        x.oneWay(1, true);
        x.round();
        drives("one way from a", x, 2, 1, 0);
        // street 2 is cleared at once, then 1 from its nearer end, which is b
        x.oneWay(1, false);
        x.shut(2, true);
        x.round();
        drives("b is nearer", x, 0, 1, 1, 0);
        clears("b is nearer", x, 0, 1, 0, 0);
        x.oneWay(1, true);
        check.due("round(): 2 cannot be come to", x.round(), PloughDepot.NO);
        x.shut(2, false);
        x.sides(0, 1);
        x.sides(2, 1);
        x.round();
        drives("least street", x, 0, 0, 2, 1, 0);
        clears("least street", x, 1, 0, 1, 1, 0);
    }

    private static void manySides() {
        PloughDepot x = Towns.of(2);
        for (int i = 0; i < 150; i++) {
            x.street(0, 1, 1, i == 0);
            x.sides(i, 2);
        }
        check.due("round(): 300 sides", x.round(), 300);
        check.due("length(2)", x.length(2), 300);
        check.due("at(2, 0): the one-way street once more", x.at(2, 0), 0);
        check.due("at(299, 0)", x.at(299, 0), 149);
    }

    private static void noWay() {
        PloughDepot x = Towns.of(3);
        x.street(0, 1, 1, true);
        check.due("round(): no way back", x.round(), PloughDepot.NO);
        x.street(1, 0, 1, true);
        check.due("round()", x.round(), 2);
        x.street(2, 1, 1, true);
        check.due("round(): no way to it", x.round(), PloughDepot.NO);
        check.due("length(0): the round that was", x.length(0), 2);
        x.sides(2, 0);
        check.due("round()", x.round(), 2);
    }

    /** A ring of 50 one-way streets, of which only those from 0 to 1 are cleared: 50 drives for each side. */
    private static void twoThousand() {
        PloughDepot x = Towns.of(50);
        for (int i = 0; i < 50; i++) {
            x.street(i, (i + 1) % 50, 1, true);
            if (i > 0) x.sides(i, 0);
        }
        x.sides(0, 2);
        check.due("round()", x.round(), 100);
        for (int i = 1; i < 20; i++) {
            x.street(0, 1, 1, true);
            x.sides(49 + i, 2);
        }
        check.due("round(): 40 sides", x.round(), 2000);
        check.due("length(2)", x.length(2), 40);
        check.due("at(1999, 0)", x.at(1999, 0), 49);
        check.due("at(1950, 3)", x.at(1950, 3), 1);
        check.due("at(2000, 0)", x.at(2000, 0), PloughDepot.NONE);
        check.due("text(): 9 of 1 sign, 2 with numbers of two", x.text(), 2000 + 40 * (9 + 40 * 2) + 2 * 1 + 38 * 2);
        x.street(0, 1, 1, true);
        check.due("round(): 41 sides", x.round(), PloughDepot.FULL);
        check.due("status()", x.status(), PloughDepot.FULL);
        check.due("length(0): the round that was", x.length(0), 2000);
        x.sides(69, 0);
        x.street(49, 0, 1, true);
        check.due("round(): a side more on the way", x.round(), 2000);
        x.street(2, 1, 1, true);
        check.due("round(): two drives more", x.round(), PloughDepot.FULL);
        x.shut(71, true);
        x.crossings(1);
        x.street(50, 0, 1, true);
        check.due("round(): 50 cannot be come to", x.round(), PloughDepot.NO);
        x.sides(69, 1);
        check.due("round(): FULL comes ahead of that", x.round(), PloughDepot.FULL);
    }

    private static void at() {
        PloughDepot x = Towns.of(3, new int[] {0, 1, 1}, new int[] {2, 1, 1}, new int[] {0, 2, 1});
        check.due("at(0, 0): no round yet", x.at(0, 0), PloughDepot.NONE);
        x.round();
        int[][] due = {{0, 0, 1, 1}, {1, 1, 2, 1}, {2, 2, 0, 1}};
        for (int i = 0; i < 3; i++) {
            for (int what = 0; what < 4; what++) check.due("at(" + i + ", " + what + ")", x.at(i, what), due[i][what]);
        }
        for (int i : new int[] {3, -1, Integer.MIN_VALUE, Integer.MAX_VALUE}) {
            check.due("at(" + i + ", 0)", x.at(i, 0), PloughDepot.NONE);
            check.due("status()", x.status(), 0);
        }
        for (int what : new int[] {-1, 4}) {
            check.due("at(0, " + what + ")", x.at(0, what), PloughDepot.BAD);
            check.due("at(-1, " + what + "): BAD is ahead of NONE", x.at(-1, what), PloughDepot.BAD);
        }
        check.due("status()", x.status(), PloughDepot.BAD);
        x.undo();
        check.due("at(0, 0): undone", x.at(0, 0), PloughDepot.NONE);
    }

    private static void lengthAndPartner() {
        PloughDepot x = Towns.of(2, new int[] {0, 1, 10000});
        check.due("partner(0): no round yet", x.partner(0), PloughDepot.NONE);
        x.round();
        check.due("length(1)", x.length(1), 20000);
        check.due("length(-1)", x.length(-1), PloughDepot.BAD);
        check.due("length(7)", x.length(7), PloughDepot.BAD);
        check.due("status()", x.status(), PloughDepot.BAD);
        x.crossings(1);
        check.due("partner(1)", x.partner(1), 0);
        check.due("partner(2): a new one", x.partner(2), PloughDepot.NONE);
        check.due("status()", x.status(), 0);
        check.due("partner(3)", x.partner(3), PloughDepot.BAD);
        check.due("partner(-1)", x.partner(-1), PloughDepot.BAD);
        x.sides(0, 0);
        check.due("length(2): of the round", x.length(2), 1);
        check.due("round()", x.round(), 0);
        check.due("length(1)", x.length(1), 0);
        check.due("partner(1)", x.partner(1), PloughDepot.NONE);
        x.undo();
        check.due("partner(1)", x.partner(1), 0);
        check.due("length(1)", x.length(1), 20000);
    }
}
