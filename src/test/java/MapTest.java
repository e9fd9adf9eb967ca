/** Promises 1 to 9 and 42: a new object, crossings, streets and ways. */
public final class MapTest {
    private static final Check check = new Check("MapTest");

    public static void main(String[] args) {
        newObject();
        crossings();
        street();
        streetIsFull();
        oneWay();
        shut();
        sides();
        told();
        way();
        wayTakesLeastCrossingThenLeastStreet();
        wayAt();
        count();
        check.end();
    }

    private static void newObject() {
        PloughDepot x = new PloughDepot();
        check.due("new: status(), ahead of all calls", x.status(), 0);
        for (int what = 0; what < 4; what++) check.due("new: count(" + what + ")", x.count(what), 0);
        for (int kind = 0; kind < 5; kind++) check.due("new: findings(" + kind + ")", x.findings(kind), 0);
        for (int what = 0; what < 7; what++) check.due("new: length(" + what + ")", x.length(what), 0);
        check.due("new: status()", x.status(), 0);
        check.due("new: trace()", x.trace(), 0);
        check.due("new: looks()", x.looks(), 0);
        check.due("new: digest()", x.digest(), 7 * 31);
        check.due("new: undo()", x.undo(), 0);
        check.due("new: text()", x.text(), 0);
        check.due("new: sign(0)", x.sign(0), PloughDepot.NONE);
        check.due("new: at(0, 0)", x.at(0, 0), PloughDepot.NONE);
        check.due("new: odd(0)", x.odd(0), PloughDepot.NONE);
        check.due("new: told(0, 0)", x.told(0, 0), PloughDepot.BAD);
        check.due("new: part(0, 0)", x.part(0, 0), PloughDepot.BAD);
        check.due("new: partner(0)", x.partner(0), PloughDepot.BAD);
        check.due("new: way(0, 0)", x.way(0, 0), PloughDepot.BAD);
        check.due("new: snow(0)", x.snow(0), 0);
        check.due("new: copies(0, 0, 0)", x.copies(0, 0, 0), 0);
        check.due("new: least(0)", x.least(0), 0);
        check.due("new: split()", x.split(), 1);
    }

    private static void crossings() {
        PloughDepot x = new PloughDepot();
        for (int n : new int[] {0, -1, 21, Integer.MAX_VALUE, Integer.MIN_VALUE}) {
            check.due("crossings(" + n + ")", x.crossings(n), PloughDepot.BAD);
            check.due("status()", x.status(), PloughDepot.BAD);
        }
        check.due("crossings(1)", x.crossings(1), 1);
        check.due("status()", x.status(), 0);
        check.due("crossings(20)", x.crossings(20), 21);
        check.due("crossings(20)", x.crossings(20), 41);
        check.due("crossings(20) above 60", x.crossings(20), PloughDepot.FULL);
        check.due("status()", x.status(), PloughDepot.FULL);
        check.due("count(0)", x.count(0), 41);
        check.due("crossings(19)", x.crossings(19), 60);
        check.due("crossings(1)", x.crossings(1), PloughDepot.FULL);
        check.due("crossings(21): BAD is ahead of FULL", x.crossings(21), PloughDepot.BAD);
        check.due("undo()", x.undo(), 1);
        check.due("count(0)", x.count(0), 41);
    }

    private static void street() {
        PloughDepot x = Towns.of(3);
        int[][] bad = {{-1, 1, 5}, {3, 1, 5}, {0, -1, 5}, {0, 3, 5}, {1, 1, 5}, {0, 1, 0}, {0, 1, -1}, {0, 1, 10001}};
        for (int[] b : bad) {
            check.due("street(" + b[0] + ", " + b[1] + ", " + b[2] + ")", x.street(b[0], b[1], b[2], false), PloughDepot.BAD);
            check.due("status()", x.status(), PloughDepot.BAD);
        }
        check.due("count(1)", x.count(1), 0);
        check.due("street(0, 1, 1)", x.street(0, 1, 1, false), 0);
        check.due("street(0, 1, 10000): a second one", x.street(0, 1, 10000, true), 1);
        check.due("street(2, 0, 7)", x.street(2, 0, 7, false), 2);
        check.due("count(1)", x.count(1), 3);
        check.due("undo()", x.undo(), 1);
        check.due("count(1)", x.count(1), 2);
        check.due("told(2, 6)", x.told(2, 6), PloughDepot.BAD);
    }

    private static void streetIsFull() {
        PloughDepot x = Towns.of(2);
        for (int i = 0; i < 150; i++) check.due("street", x.street(i % 2, 1 - i % 2, 1 + i, false), i);
        check.due("street above 150", x.street(0, 1, 1, false), PloughDepot.FULL);
        check.due("status()", x.status(), PloughDepot.FULL);
        check.due("street above 150: BAD is ahead of FULL", x.street(0, 0, 1, false), PloughDepot.BAD);
        check.due("count(1)", x.count(1), 150);
        check.due("told(149, 6)", x.told(149, 6), 150);
        check.due("way(0, 1)", x.way(0, 1), 1);
    }

    private static void oneWay() {
        PloughDepot x = Towns.of(2, new int[] {0, 1, 5});
        check.due("oneWay(0, true)", x.oneWay(0, true), 0);
        check.due("way(0, 1)", x.way(0, 1), 5);
        check.due("way(1, 0)", x.way(1, 0), PloughDepot.NO);
        check.due("oneWay(0, true)", x.oneWay(0, true), 1);
        check.due("undo()", x.undo(), 1);
        check.due("told(0, 5)", x.told(0, 5), 1);
        check.due("oneWay(0, false)", x.oneWay(0, false), 1);
        check.due("way(1, 0)", x.way(1, 0), 5);
        check.due("undo()", x.undo(), 1);
        check.due("way(1, 0)", x.way(1, 0), PloughDepot.NO);
        check.due("oneWay(1, true)", x.oneWay(1, true), PloughDepot.BAD);
        check.due("oneWay(-1, true)", x.oneWay(-1, true), PloughDepot.BAD);
        check.due("status()", x.status(), PloughDepot.BAD);
    }

    private static void shut() {
        PloughDepot x = Towns.of(2, new int[] {0, 1, 5}, new int[] {1, 0, 9});
        check.due("shut(0, true)", x.shut(0, true), 0);
        check.due("told(0, 4)", x.told(0, 4), 1);
        check.due("way(0, 1)", x.way(0, 1), 9);
        check.due("shut(0, true)", x.shut(0, true), 1);
        check.due("shut(1, true)", x.shut(1, true), 0);
        check.due("way(0, 1)", x.way(0, 1), PloughDepot.NO);
        check.due("undo()", x.undo(), 1);
        check.due("way(0, 1)", x.way(0, 1), 9);
        check.due("shut(0, false)", x.shut(0, false), 1);
        check.due("way(0, 1)", x.way(0, 1), 5);
        check.due("shut(2, true)", x.shut(2, true), PloughDepot.BAD);
        check.due("shut(-1, true)", x.shut(-1, true), PloughDepot.BAD);
    }

    private static void sides() {
        PloughDepot x = Towns.of(2, new int[] {0, 1, 5});
        check.due("sides(0, 2)", x.sides(0, 2), 1);
        check.due("sides(0, 0)", x.sides(0, 0), 2);
        check.due("sides(0, 1)", x.sides(0, 1), 0);
        for (int n : new int[] {-1, 3}) check.due("sides(0, " + n + ")", x.sides(0, n), PloughDepot.BAD);
        check.due("sides(1, 1)", x.sides(1, 1), PloughDepot.BAD);
        check.due("sides(-1, 1)", x.sides(-1, 1), PloughDepot.BAD);
        check.due("told(0, 3)", x.told(0, 3), 1);
        x.plough(0, 100);
        x.round();
        x.split();
        x.go(0, 1);
        check.due("told(0, 2): cleared", x.told(0, 2), 1);
        check.due("sides(0, 1)", x.sides(0, 1), 1);
        check.due("told(0, 2): CLEARED is 0", x.told(0, 2), 0);
        check.due("undo()", x.undo(), 1);
        check.due("told(0, 2)", x.told(0, 2), 1);
    }

    private static void told() {
        PloughDepot x = Towns.of(4);
        x.street(2, 1, 77, true);
        x.street(0, 3, 10000, false);
        int[] first = {0, 0, 0, 1, 0, 1, 77, 2, 1};
        int[] second = {0, 0, 0, 1, 0, 0, 10000, 0, 3};
        for (int what = 0; what < 9; what++) {
            check.due("told(0, " + what + ")", x.told(0, what), first[what]);
            check.due("told(1, " + what + ")", x.told(1, what), second[what]);
        }
        check.due("status()", x.status(), 0);
        for (int[] bad : new int[][] {{0, -1}, {0, 9}, {2, 0}, {-1, 8}, {Integer.MAX_VALUE, 0}, {Integer.MIN_VALUE, 3}}) {
            check.due("told(" + bad[0] + ", " + bad[1] + ")", x.told(bad[0], bad[1]), PloughDepot.BAD);
            check.due("status()", x.status(), PloughDepot.BAD);
        }
    }

    private static void way() {
        PloughDepot x = Towns.of(5, new int[] {0, 1, 10}, new int[] {1, 2, 10}, new int[] {0, 2, 21}, new int[] {2, 3, 10000});
        check.due("way(0, 2)", x.way(0, 2), 20);
        check.due("way(2, 0)", x.way(2, 0), 20);
        check.due("way(0, 3)", x.way(0, 3), 10020);
        check.due("way(0, 0)", x.way(0, 0), 0);
        check.due("way(4, 4)", x.way(4, 4), 0);
        check.due("way(0, 4)", x.way(0, 4), PloughDepot.NO);
        check.due("status()", x.status(), PloughDepot.NO);
        for (int c : new int[] {-1, 5, Integer.MAX_VALUE}) {
            check.due("way(0, " + c + ")", x.way(0, c), PloughDepot.BAD);
            check.due("way(" + c + ", 0)", x.way(c, 0), PloughDepot.BAD);
        }
        check.due("status()", x.status(), PloughDepot.BAD);
        x.street(2, 0, 1, true);
        check.due("way(2, 0): a street more", x.way(2, 0), 1);
        check.due("way(0, 2)", x.way(0, 2), 20);
        x.undo();
        check.due("way(2, 0): it is undone", x.way(2, 0), 20);
        PloughDepot y = Towns.of(4, new int[] {0, 3, 10}, new int[] {0, 1, 1}, new int[] {1, 3, 1}, new int[] {3, 2, 1});
        check.due("way(2, 0): by crossings that are near, not by the first that is seen", y.way(2, 0), 3);
    }

    private static void wayTakesLeastCrossingThenLeastStreet() {
        // three ways of length 6 from 0 to 4; streets to crossing 1 have the greater numbers
        PloughDepot x = Towns.of(5, new int[] {0, 3, 1}, new int[] {3, 4, 5}, new int[] {0, 2, 3}, new int[] {2, 4, 3},
            new int[] {1, 4, 4}, new int[] {4, 1, 4}, new int[] {0, 1, 2}, new int[] {1, 0, 2});
        check.due("way(0, 4)", x.way(0, 4), 6);
        check.due("wayAt(0, 4, 0)", x.wayAt(0, 4, 0), 6);
        check.due("wayAt(0, 4, 1)", x.wayAt(0, 4, 1), 4);
        check.due("wayAt(4, 0, 0)", x.wayAt(4, 0, 0), 4);
        check.due("wayAt(4, 0, 1)", x.wayAt(4, 0, 1), 6);
        x.oneWay(6, true);
        check.due("wayAt(4, 0, 1): 6 goes the other way", x.wayAt(4, 0, 1), 7);
        x.shut(6, true);
        check.due("wayAt(0, 4, 0): 6 is shut", x.wayAt(0, 4, 0), 7);
        x.shut(7, true);
        check.due("wayAt(0, 4, 0): crossing 2 next", x.wayAt(0, 4, 0), 2);
    }

    private static void wayAt() {
        PloughDepot x = Towns.of(4, new int[] {0, 1, 10}, new int[] {1, 2, 10});
        check.due("wayAt(0, 2, 0)", x.wayAt(0, 2, 0), 0);
        check.due("wayAt(0, 2, 1)", x.wayAt(0, 2, 1), 1);
        check.due("wayAt(2, 0, 0)", x.wayAt(2, 0, 0), 1);
        for (int i : new int[] {2, 60, -1, Integer.MIN_VALUE, Integer.MAX_VALUE}) {
            check.due("wayAt(0, 2, " + i + ")", x.wayAt(0, 2, i), PloughDepot.NONE);
            check.due("status()", x.status(), 0);
        }
        check.due("wayAt(1, 1, 0)", x.wayAt(1, 1, 0), PloughDepot.NONE);
        check.due("wayAt(0, 3, 0)", x.wayAt(0, 3, 0), PloughDepot.NO);
        check.due("wayAt(0, 3, -1)", x.wayAt(0, 3, -1), PloughDepot.NO);
        check.due("wayAt(0, 4, 0)", x.wayAt(0, 4, 0), PloughDepot.BAD);
        check.due("wayAt(-1, 0, 0)", x.wayAt(-1, 0, 0), PloughDepot.BAD);
        PloughDepot chain = Towns.of(60);
        for (int i = 0; i < 59; i++) chain.street(i, i + 1, 10000, false);
        check.due("way(0, 59)", chain.way(0, 59), 590000);
        check.due("wayAt(0, 59, 58)", chain.wayAt(0, 59, 58), 58);
        check.due("wayAt(59, 0, 58)", chain.wayAt(59, 0, 58), 0);
    }

    private static void count() {
        PloughDepot x = Towns.of(3, new int[] {0, 1, 1}, new int[] {0, 1, 1});
        x.gauge(0, true);
        x.plough(0, 1);
        x.plough(0, 1);
        x.plough(0, 1);
        x.pair(0, 1, 1);
        check.due("count(0)", x.count(0), 3);
        check.due("count(1)", x.count(1), 2);
        check.due("count(2)", x.count(2), 1);
        check.due("count(3)", x.count(3), 4);
        for (int what : new int[] {-1, 4, Integer.MAX_VALUE}) check.due("count(" + what + ")", x.count(what), PloughDepot.BAD);
        check.due("status() is not of count()", x.status(), 0);
    }
}
