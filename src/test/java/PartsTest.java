/** Promises 31 to 36: parts of the round, what is cleared as ploughs go, and the text. */
public final class PartsTest {
    private static final Check check = new Check("PartsTest");

    public static void main(String[] args) {
        split();
        splitByMinutes();
        splitByDepth();
        splitAgain();
        splitOfNothing();
        part();
        refusedGo();
        goByNumbers();
        goUpToShut();
        goClears();
        goTooDeep();
        goByMorePasses();
        goIsLate();
        goWithOtherSides();
        goUndone();
        text();
        check.end();
    }

    private static void partIs(String what, PloughDepot x, int plough, int... due) {
        for (int i = 0; i < due.length; i++) check.due(what + ": part(" + plough + ", " + i + ")", x.part(plough, i), due[i]);
    }

    /** A ring of n streets of length 100, and a round of n drives, which all clear. */
    private static PloughDepot ring(int n) {
        PloughDepot x = Towns.of(n);
        for (int i = 0; i < n; i++) x.street(i, (i + 1) % n, 100, false);
        x.round();
        return x;
    }

    private static void split() {
        PloughDepot x = ring(6);
        x.plough(0, 4);
        x.plough(3, 6);
        x.plough(0, 100);
        check.due("split()", x.split(), 1);
        check.due("status()", x.status(), 0);
        // a truck takes 2 for each, a tractor 6
        partIs("truck", x, 0, 0, 2, 0, 0, 4, 4, 0, 0, 0);
        partIs("tractor", x, 1, 2, 1, 0, 0, 6, 6, 3, 0, 0);
        partIs("the rest", x, 2, 3, 3, 0, 0, 6, 100, 0, 0, 0);
        // three asked of 0, two of 1, three of 2
        check.due("trace()", x.trace(), 3 * 101 + 2 * 111 + 3 * 101);
        check.due("undo()", x.undo(), 1);
        partIs("undone", x, 2, 0, 0, 0, 0, 0, 100, 0, 0, 0);
        check.due("trace(): stays", x.trace(), 828);
        x.out(1);
        check.due("split()", x.split(), 1);
        partIs("out", x, 1, 0, 0, 0, 0, 0, 6, PloughDepot.NONE, 0, 0);
        partIs("behind the one that is out", x, 2, 2, 4, 0, 0, 8, 100, 0, 0, 0);
    }

    private static void splitByMinutes() {
        PloughDepot x = ring(3);
        x.plough(0, 5);
        check.due("split(): 3 drives are 6", x.split(), 0);
        check.due("status()", x.status(), 0);
        check.due("part(0, 1)", x.part(0, 1), 0);
        check.due("trace()", x.trace(), 303);
        check.due("undo(): it was no change, so the plough goes", x.undo(), 1);
        check.due("count(3)", x.count(3), 0);
        x.plough(0, 6);
        check.due("split()", x.split(), 1);
        check.due("part(0, 4)", x.part(0, 4), 6);
        PloughDepot y = ring(3);
        y.plough(0, 0);
        y.plough(0, 1);
        y.plough(0, 6);
        y.plough(1, 100);
        check.due("split()", y.split(), 1);
        partIs("no minutes", y, 0, 0, 0, 0, 0, 0, 0);
        partIs("too few", y, 1, 0, 0, 0, 0, 0, 1);
        partIs("all", y, 2, 0, 3, 0, 0, 6, 6);
        partIs("nothing is left", y, 3, 3, 0, 0, 0, 0, 100);
        check.due("trace(): the last one is not asked", y.trace(), 101 + 101 + 303);
    }

    private static void splitByDepth() {
        // 700 is too deep for a truck, a blower needs three passes, a tractor two
        PloughDepot x = Towns.of(3, new int[] {0, 1, 60}, new int[] {1, 2, 60}, new int[] {2, 0, 60});
        Towns.snow(x, 700);
        for (int street = 0; street < 3; street++) check.due("told(" + street + ", 0)", x.told(street, 0), 700);
        x.round();
        x.plough(0, 1000);
        x.plough(1, 11);
        x.plough(2, 1000);
        x.plough(3, 13);
        check.due("split(): nobody takes the last one", x.split(), 0);
        check.due("findings(4): not in split()", x.findings(4), 0);
        // truck: 100; blower: 1001 twice; salter: 100; tractor: 111 twice
        check.due("trace()", x.trace(), 100 + 2002 + 100 + 222);
        x.plough(1, 6);
        check.due("split()", x.split(), 1);
        partIs("too deep", x, 0, 0, 0, 0, 0, 0);
        partIs("three passes", x, 1, 0, 1, 0, 0, 6);
        partIs("too deep", x, 2, 1, 0, 0, 0, 0);
        partIs("two passes", x, 3, 1, 1, 0, 0, 8);
        partIs("the last", x, 4, 2, 1, 0, 0, 6);
    }

    private static void splitAgain() {
        PloughDepot x = ring(4);
        x.plough(0, 100);
        x.split();
        x.go(0, 2);
        check.due("part(0, 2)", x.part(0, 2), 2);
        check.due("split()", x.split(), 1);
        partIs("new parts", x, 0, 0, 4, 0, 0, 8, 100, 0, 0, 0);
        x.undo();
        partIs("undone", x, 0, 0, 4, 2, 4, 8, 100, 0, 0, 0);
        Towns.snow(x, 1000);
        check.due("split(): too deep", x.split(), 0);
        partIs("as they were", x, 0, 0, 4, 2, 4, 8, 100, 0, 0, 0);
    }

    private static void splitOfNothing() {
        PloughDepot x = new PloughDepot();
        check.due("split(): no drives, no ploughs", x.split(), 1);
        check.due("undo()", x.undo(), 1);
        x.plough(0, 5);
        check.due("split(): no drives", x.split(), 1);
        partIs("no drives", x, 0, 0, 0, 0, 0, 0, 5, 0, 0, 0);
        PloughDepot y = ring(2);
        check.due("split(): no ploughs", y.split(), 0);
    }

    private static void part() {
        PloughDepot x = ring(2);
        x.plough(2, 55);
        for (int[] bad : new int[][] {{1, 0}, {-1, 0}, {0, -1}, {0, 9}, {Integer.MAX_VALUE, 5}}) {
            check.due("part(" + bad[0] + ", " + bad[1] + ")", x.part(bad[0], bad[1]), PloughDepot.BAD);
            check.due("status()", x.status(), PloughDepot.BAD);
        }
        check.due("part(0, 6)", x.part(0, 6), 2);
        check.due("status()", x.status(), 0);
        x.out(0);
        check.due("part(0, 6)", x.part(0, 6), PloughDepot.NONE);
        check.due("status(): NONE is no refusal", x.status(), 0);
        check.due("part(0, 5)", x.part(0, 5), 55);
    }

    private static void refusedGo() {
        PloughDepot x = ring(3);
        x.plough(0, 100);
        x.plough(0, 100);
        for (int[] bad : new int[][] {{2, 1}, {-1, 1}, {0, 0}, {0, -1}, {0, 51}, {0, Integer.MAX_VALUE}}) {
            check.due("go(" + bad[0] + ", " + bad[1] + ")", x.go(bad[0], bad[1]), PloughDepot.BAD);
        }
        check.due("go(0, 1): no part", x.go(0, 1), PloughDepot.NO);
        x.split();
        check.due("go(1, 1): a part of no drives", x.go(1, 1), PloughDepot.NO);
        check.due("status()", x.status(), PloughDepot.NO);
        x.out(1);
        check.due("go(1, 1): out", x.go(1, 1), PloughDepot.NULL);
        check.due("findings(0)", x.findings(0), 1);
        check.due("go(1, 51): BAD is ahead of NULL", x.go(1, 51), PloughDepot.BAD);
        check.due("looks()", x.looks(), 0);
        check.due("go(0, 3)", x.go(0, 3), 3);
        check.due("go(0, 1): none is left", x.go(0, 1), PloughDepot.NO);
        check.due("looks()", x.looks(), 3);
        check.due("looks() leaves status()", x.status(), PloughDepot.NO);
    }

    private static void goByNumbers() {
        PloughDepot x = ring(60);
        x.plough(0, 20);
        x.plough(0, 200);
        x.split();
        check.due("go(1, 50)", x.go(1, 50), 50);
        check.due("part(1, 2)", x.part(1, 2), 50);
        check.due("part(1, 3)", x.part(1, 3), 100);
        check.due("told(9, 2): of the other part", x.told(9, 2), 0);
        check.due("told(10, 2)", x.told(10, 2), 1);
        check.due("told(59, 2)", x.told(59, 2), 1);
        check.due("go(0, 1)", x.go(0, 1), 1);
        check.due("go(0, 4)", x.go(0, 4), 4);
        check.due("go(0, 50): up to its part's end", x.go(0, 50), 5);
        check.due("told(9, 2)", x.told(9, 2), 1);
        partIs("all driven", x, 0, 0, 10, 10, 20, 20, 20, 0, 0, 0);
        check.due("looks()", x.looks(), 60);
        check.due("trace()", x.trace() - 61 * 101, 60 * 101);
    }

    private static void goUpToShut() {
        PloughDepot x = ring(4);
        x.plough(0, 100);
        x.split();
        x.shut(2, true);
        check.due("go(0, 4): up to street 2", x.go(0, 4), 2);
        check.due("looks(): that, too", x.looks(), 3);
        check.due("status()", x.status(), 0);
        check.due("go(0, 4)", x.go(0, 4), 0);
        check.due("status(): 0 is no refusal", x.status(), 0);
        check.due("looks()", x.looks(), 4);
        check.due("part(0, 2)", x.part(0, 2), 2);
        check.due("undo(): of the go() that drove", x.undo(), 1);
        check.due("part(0, 2)", x.part(0, 2), 0);
        check.due("looks(): none is taken back", x.looks(), 4);
        check.due("go(0, 2)", x.go(0, 2), 2);
        check.due("looks(): no further", x.looks(), 6);
        x.shut(2, false);
        check.due("go(0, 2)", x.go(0, 2), 2);
        check.due("told(3, 2)", x.told(3, 2), 1);
    }

    private static void goClears() {
        PloughDepot x = Towns.drifted(150);
        x.sides(0, 2);
        x.plough(0, 100);
        x.round();
        x.split();
        x.go(0, 1);
        check.due("told(0, 2)", x.told(0, 2), 1);
        check.due("told(0, 0): one side is left", x.told(0, 0), 150);
        x.go(0, 1);
        check.due("told(0, 2)", x.told(0, 2), 2);
        check.due("told(0, 0)", x.told(0, 0), 0);
        check.due("part(0, 7): one pass each", x.part(0, 7), 0);
        Towns.snow(x, 90);
        x.split();
        x.go(0, 1);
        check.due("told(0, 2): not above sides", x.told(0, 2), 2);
        check.due("told(0, 0): cleared again", x.told(0, 0), 0);
        PloughDepot y = Towns.drifted(150);
        y.plough(0, 100);
        y.round();
        y.split();
        y.go(0, 1);
        Towns.snow(y, 80);
        y.go(0, 1);
        check.due("told(0, 0): an empty drive clears nothing", y.told(0, 0), 80);
        check.due("trace(): and asks for no passes", y.trace(), 102 + 102);
    }

    private static void goTooDeep() {
        PloughDepot x = Towns.drifted(100);
        x.plough(0, 100);
        x.round();
        x.split();
        Towns.snow(x, 301);
        int trace = x.trace();
        check.due("go(0, 1)", x.go(0, 1), 1);
        check.due("findings(4)", x.findings(4), 1);
        check.due("status(): a finding alone", x.status(), 0);
        check.due("told(0, 0)", x.told(0, 0), 401);
        check.due("told(0, 2)", x.told(0, 2), 0);
        partIs("driven as an empty one", x, 0, 0, 2, 1, 20, 40, 100, 0, 0, 0);
        check.due("trace()", x.trace() - trace, 101);
        x.undo();
        check.due("findings(4): stay", x.findings(4), 1);
        x.melt(8, 8);
        check.due("told(0, 0)", x.told(0, 0), 398);
        x.go(0, 1);
        check.due("findings(4)", x.findings(4), 1);
        check.due("told(0, 2)", x.told(0, 2), 1);
    }

    private static void goByMorePasses() {
        PloughDepot x = Towns.drifted(300);
        x.sides(0, 2);
        x.plough(0, 1000);
        x.round();
        x.split();
        check.due("part(0, 4): two passes each", x.part(0, 4), 80);
        x.go(0, 1);
        partIs("two passes", x, 0, 0, 2, 1, 40, 80, 1000, 0, 1, 0);
        x.go(0, 1);
        partIs("two passes twice", x, 0, 0, 2, 2, 80, 80, 1000, 0, 2, 0);
        PloughDepot y = Towns.drifted(601);
        y.plough(1, 1000);
        y.round();
        y.split();
        int trace = y.trace();
        y.go(0, 2);
        partIs("three passes, one empty", y, 0, 0, 2, 2, 34 * 4, 34 * 4, 1000, 1, 1, 0);
        check.due("trace(): takes are asked once", y.trace() - trace, 1002);
        Towns.snow(y, 601);
        y.sides(0, 0);
        y.undo();
        y.split();
        y.go(0, 1);
        check.due("part(0, 7): cleared once more than its sides", y.part(0, 7), 1);
    }

    private static void goIsLate() {
        PloughDepot x = Towns.drifted(100);
        x.sides(0, 2);
        x.plough(0, 40);
        x.round();
        x.split();
        x.go(0, 2);
        check.due("part(0, 8): 40 are not more than 40", x.part(0, 8), 0);
        check.due("undo()", x.undo(), 1);
        Towns.snow(x, 200);
        x.go(0, 1);
        check.due("part(0, 3)", x.part(0, 3), 40);
        check.due("part(0, 8)", x.part(0, 8), 0);
        x.go(0, 1);
        check.due("part(0, 3)", x.part(0, 3), 80);
        check.due("part(0, 8)", x.part(0, 8), 1);
        check.due("part(0, 7)", x.part(0, 7), 2);
        x.undo();
        check.due("part(0, 8): undone", x.part(0, 8), 0);
        PloughDepot y = ring(4);
        y.plough(0, 8);
        y.split();
        Towns.snow(y, 250);
        y.go(0, 4);
        // two passes for each: 4, 8, 12, 16
        check.due("part(0, 3)", y.part(0, 3), 16);
        check.due("part(0, 8): behind the third and the fourth", y.part(0, 8), 2);
    }

    private static void goWithOtherSides() {
        PloughDepot x = Towns.drifted(150);
        x.plough(0, 100);
        x.round();
        x.split();
        x.sides(0, 0);
        x.go(0, 1);
        check.due("told(0, 2): no sides, none cleared", x.told(0, 2), 0);
        check.due("told(0, 0): 0 is as many as its sides", x.told(0, 0), 0);
        PloughDepot y = Towns.drifted(150);
        y.plough(0, 100);
        y.round();
        y.split();
        y.sides(0, 2);
        y.go(0, 2);
        check.due("told(0, 2): one drive clears", y.told(0, 2), 1);
        check.due("told(0, 0)", y.told(0, 0), 150);
        y.oneWay(0, true);
        y.split();
        check.due("go(0, 2): ways do not matter", y.go(0, 2), 2);
    }

    private static void goUndone() {
        PloughDepot x = ring(3);
        x.plough(0, 100);
        x.split();
        int before = x.digest();
        x.go(0, 3);
        check.holds("digest() is another one", x.digest() != before);
        check.due("undo()", x.undo(), 1);
        check.due("digest()", x.digest(), before);
    }

    private static String textOf(PloughDepot x) {
        StringBuilder b = new StringBuilder();
        int n = x.text();
        for (int i = 0; i < n; i++) b.append((char) x.sign(i));
        check.due("sign(" + n + "): behind the last", x.sign(n), PloughDepot.NONE);
        check.due("sign(-1)", x.sign(-1), PloughDepot.NONE);
        return b.toString();
    }

    private static void text() {
        PloughDepot x = Towns.of(13);
        for (int i = 0; i < 12; i++) x.street(i, i + 1, 50, false);
        x.sides(11, 2);
        x.sides(0, 0);
        x.round();
        check.holds("text of the round", textOf(x).equals("-0+1+2+3+4+5+6+7+8+9+10+11+11-10-9-8-7-6-5-4-3-2-1-0"));
        x.out(x.plough(0, 100));
        for (int i = 1; i < 12; i++) x.plough(0, i == 5 ? 0 : i == 11 ? 100 : 1);
        x.split();
        check.holds("text with parts", textOf(x).equals("-0B+1C+2D+3E+4G+5H+6I+7J+8K+9+10+11+11-10-9-8-7-6-5-4-3-2-1-0L"));
        x.round();
        check.due("sign(2): of the latest text()", x.sign(2), 'B');
        check.due("text(): no parts any more", x.text(), 2 * 24 + 4);
        check.due("sign(2)", x.sign(2), '+');
        x.undo();
        check.due("sign(2): undo() leaves the text", x.sign(2), '+');
        check.due("text()", x.text(), 2 * 24 + 4 + 10);
        check.due("status()", x.status(), 0);
        check.due("sign(MAX)", x.sign(Integer.MAX_VALUE), PloughDepot.NONE);
        check.due("sign(MIN)", x.sign(Integer.MIN_VALUE), PloughDepot.NONE);
        PloughDepot two = ring(3);
        two.plough(0, 4);
        two.plough(1, 100);
        two.split();
        check.holds("the first letters", textOf(two).equals("+0+1A+2B"));
        PloughDepot none = new PloughDepot();
        check.due("sign(0): no text() yet", none.sign(0), PloughDepot.NONE);
        for (int i = 0; i < 6; i++) none.crossings(10);
        for (int i = 0; i < 101; i++) none.street(0, 1, 1, false);
        for (int i = 0; i < 100; i++) none.sides(i, 0);
        none.round();
        check.holds("numbers of three signs", textOf(none).equals("-0+100"));
    }
}
