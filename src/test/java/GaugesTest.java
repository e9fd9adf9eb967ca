/** Promises 10 to 19: gauges, their readings, snow and thaw. */
public final class GaugesTest {
    private static final Check check = new Check("GaugesTest");

    public static void main(String[] args) {
        gauge();
        row();
        lose();
        readings();
        refusedReadings();
        none();
        copy();
        copyWithin();
        copies();
        snowByNearGauges();
        snowOfFloats();
        snowIsCapped();
        snowFindings();
        melt();
        check.end();
    }

    private static void gauge() {
        PloughDepot x = Towns.of(2);
        check.due("gauge(2, true)", x.gauge(2, true), PloughDepot.BAD);
        check.due("gauge(-1, true)", x.gauge(-1, true), PloughDepot.BAD);
        for (int i = 0; i < 20; i++) check.due("gauge", x.gauge(i % 2, i % 3 == 0), i);
        check.due("gauge above 20", x.gauge(0, false), PloughDepot.FULL);
        check.due("status()", x.status(), PloughDepot.FULL);
        check.due("gauge above 20: BAD is ahead of FULL", x.gauge(2, false), PloughDepot.BAD);
        check.due("read(19, 0): its row is missing", x.read(19, 0), PloughDepot.NULL);
        x.undo();
        check.due("count(2)", x.count(2), 19);
        check.due("read(19, 0)", x.read(19, 0), PloughDepot.BAD);
    }

    private static void row() {
        PloughDepot x = Towns.of(1);
        x.gauge(0, false);
        check.due("row(1, 5)", x.row(1, 5), PloughDepot.BAD);
        check.due("row(-1, 5)", x.row(-1, 5), PloughDepot.BAD);
        check.due("row(0, 201)", x.row(0, 201), PloughDepot.BAD);
        check.due("row(1, -1): BAD is ahead of SIZE", x.row(1, -1), PloughDepot.BAD);
        check.due("findings(3)", x.findings(3), 0);
        check.due("row(0, -1)", x.row(0, -1), PloughDepot.SIZE);
        check.due("status()", x.status(), PloughDepot.SIZE);
        check.due("row(0, MIN)", x.row(0, Integer.MIN_VALUE), PloughDepot.SIZE);
        check.due("findings(3)", x.findings(3), 2);
        check.due("read(0, 0): still missing", x.read(0, 0), PloughDepot.NULL);
        check.due("row(0, 0)", x.row(0, 0), 1);
        check.due("read(0, 0): no such hour", x.read(0, 0), PloughDepot.INDEX);
        check.due("row(0, 200)", x.row(0, 200), 1);
        check.due("reading(0, 199, 8)", x.reading(0, 199, 8), 1);
        check.due("read(0, 199)", x.read(0, 199), 10);
        check.due("read(0, 200)", x.read(0, 200), PloughDepot.INDEX);
        x.reading(0, 0, 8);
        check.due("row(0, 200) again", x.row(0, 200), 1);
        check.due("read(0, 0): all are 0", x.read(0, 0), 0);
        check.due("read(0, 199): all are 0", x.read(0, 199), 0);
        x.undo();
        check.due("read(0, 199): undone", x.read(0, 199), 10);
    }

    private static void lose() {
        PloughDepot x = Towns.of(1);
        x.gauge(0, true);
        check.due("lose(0): it was missing", x.lose(0), 0);
        x.row(0, 2);
        x.reading(0, 1, 40);
        check.due("lose(0)", x.lose(0), 1);
        check.due("read(0, 1)", x.read(0, 1), PloughDepot.NULL);
        x.undo();
        check.due("read(0, 1): undone", x.read(0, 1), 40);
        x.lose(0);
        check.due("lose(0)", x.lose(0), 0);
        check.due("undo(): that was a change, too", x.undo(), 1);
        check.due("read(0, 1): it was missing ahead of it", x.read(0, 1), PloughDepot.NULL);
        check.due("lose(1)", x.lose(1), PloughDepot.BAD);
        check.due("lose(-1)", x.lose(-1), PloughDepot.BAD);
    }

    private static void readings() {
        PloughDepot x = Towns.of(1);
        x.gauge(0, false);
        x.gauge(0, true);
        x.row(0, 1);
        x.row(1, 1);
        int[][] floats = {{80, 100}, {1, 1}, {7, 8}, {-1, 0}, {Integer.MIN_VALUE, 0}, {80000, 100000}, {79999, 99998}, {Integer.MAX_VALUE, 100000},
            {32767, 40958}, {-32768, 0}, {0, 0}};
        for (int[] f : floats) {
            check.due("reading(0, 0, " + f[0] + ")", x.reading(0, 0, f[0]), 1);
            check.due("read(0, 0) of floats behind " + f[0], x.read(0, 0), f[1]);
        }
        int[][] shorts = {{55, 55}, {-7, 0}, {32766, 32766}, {32767, PloughDepot.NONE}, {-32768, PloughDepot.NONE}, {32768, PloughDepot.NONE},
            {-32767, 0}, {65536 + 123, 123}, {65535, 0}, {Integer.MAX_VALUE, 0}, {Integer.MIN_VALUE, 0}, {0x17FFF, PloughDepot.NONE}};
        for (int[] s : shorts) {
            check.due("reading(1, 0, " + s[0] + ")", x.reading(1, 0, s[0]), 1);
            check.due("read(1, 0) of shorts behind " + s[0], x.read(1, 0), s[1]);
        }
        for (int v = 0; v < 32767; v += 13) {
            x = v % 2600 == 0 ? shortGauge() : x;
            x.reading(1, 0, v);
            check.due("read(1, 0) behind " + v, x.read(1, 0), (int) ((float) v / 10f * 10f));
        }
    }

    private static PloughDepot shortGauge() {
        PloughDepot x = Towns.of(1);
        x.gauge(0, false);
        x.gauge(0, true);
        x.row(1, 1);
        return x;
    }

    private static void refusedReadings() {
        PloughDepot x = Towns.of(1);
        x.gauge(0, false);
        x.gauge(0, true);
        x.row(1, 3);
        check.due("reading(2, 0, 1)", x.reading(2, 0, 1), PloughDepot.BAD);
        check.due("reading(-1, 0, 1)", x.reading(-1, 0, 1), PloughDepot.BAD);
        check.due("read(2, 0)", x.read(2, 0), PloughDepot.BAD);
        check.due("read(-1, 0)", x.read(-1, 0), PloughDepot.BAD);
        check.due("reading(0, 0, 1)", x.reading(0, 0, 1), PloughDepot.NULL);
        check.due("reading(0, -1, 1): NULL is met ahead of INDEX", x.reading(0, -1, 1), PloughDepot.NULL);
        check.due("status()", x.status(), PloughDepot.NULL);
        for (int hour : new int[] {-1, 3, 200, Integer.MIN_VALUE, Integer.MAX_VALUE}) {
            check.due("reading(1, " + hour + ", 1)", x.reading(1, hour, 1), PloughDepot.INDEX);
            check.due("read(1, " + hour + ")", x.read(1, hour), PloughDepot.INDEX);
            check.due("none(1, " + hour + ", 0)", x.none(1, hour, 0), PloughDepot.INDEX);
        }
        check.due("status()", x.status(), PloughDepot.INDEX);
        check.due("findings(0)", x.findings(0), 2);
        check.due("findings(1)", x.findings(1), 15);
        check.due("undo(): takes the row", x.undo(), 1);
        check.due("read(1, 0)", x.read(1, 0), PloughDepot.NULL);
    }

    private static void none() {
        PloughDepot x = Towns.of(1);
        x.gauge(0, false);
        x.gauge(0, true);
        check.due("none(0, 0, 0)", x.none(0, 0, 0), PloughDepot.NULL);
        x.row(0, 2);
        x.row(1, 2);
        for (int gauge = 0; gauge < 2; gauge++) {
            for (int which = 0; which < 2; which++) {
                x.reading(gauge, 1, 40);
                check.due("none(" + gauge + ", 1, " + which + ")", x.none(gauge, 1, which), 1);
                check.due("read(" + gauge + ", 1)", x.read(gauge, 1), PloughDepot.NONE);
                check.due("status(): NONE is no refusal", x.status(), 0);
                check.due("read(" + gauge + ", 0)", x.read(gauge, 0), 0);
                x.undo();
                check.due("read(" + gauge + ", 1): undone", x.read(gauge, 1), gauge == 0 ? 50 : 40);
            }
        }
        check.due("none(0, 0, 2)", x.none(0, 0, 2), PloughDepot.BAD);
        check.due("none(0, 0, -1)", x.none(0, 0, -1), PloughDepot.BAD);
        check.due("none(2, 0, 0)", x.none(2, 0, 0), PloughDepot.BAD);
        check.due("none(-1, 0, 0)", x.none(-1, 0, 0), PloughDepot.BAD);
    }

    /** Gauges 0 and 1 of shorts with 5 and 3 readings, 2 of floats with 5, 3 of shorts without a row. */
    private static PloughDepot fourGauges() {
        PloughDepot x = Towns.of(1);
        x.gauge(0, true);
        x.gauge(0, true);
        x.gauge(0, false);
        x.gauge(0, true);
        x.row(0, 5);
        x.row(1, 3);
        x.row(2, 5);
        for (int i = 0; i < 5; i++) x.reading(0, i, 10 + i);
        return x;
    }

    private static void copy() {
        PloughDepot x = fourGauges();
        check.due("copy(0, 2, 1, 0, 3)", x.copy(0, 2, 1, 0, 3), 1);
        for (int i = 0; i < 3; i++) check.due("read(1, " + i + ")", x.read(1, i), 12 + i);
        check.due("undo()", x.undo(), 1);
        check.due("read(1, 0)", x.read(1, 0), 0);
        check.due("copy(0, 0, 2, 0, 1): shorts to floats", x.copy(0, 0, 2, 0, 1), PloughDepot.BAD);
        check.due("copy(0, -1, 2, 0, 1): BAD is ahead of INDEX", x.copy(0, -1, 2, 0, 1), PloughDepot.BAD);
        check.due("copy(4, 0, 0, 0, 1)", x.copy(4, 0, 0, 0, 1), PloughDepot.BAD);
        check.due("copy(0, 0, 4, 0, 1)", x.copy(0, 0, 4, 0, 1), PloughDepot.BAD);
        check.due("copy(-1, 0, 0, 0, 1)", x.copy(-1, 0, 0, 0, 1), PloughDepot.BAD);
        check.due("copy(3, 0, 0, 0, 1)", x.copy(3, 0, 0, 0, 1), PloughDepot.NULL);
        check.due("copy(0, 0, 3, -1, 1): NULL is met ahead of INDEX", x.copy(0, 0, 3, -1, 1), PloughDepot.NULL);
        check.due("copy(3, 0, 3, 0, 0)", x.copy(3, 0, 3, 0, 0), PloughDepot.NULL);
        check.due("findings(0): one each", x.findings(0), 3);
        int max = Integer.MAX_VALUE;
        int[][] outside = {{-1, 0, 1}, {0, -1, 1}, {0, 0, -1}, {0, 0, 4}, {3, 0, 3}, {0, 1, 3}, {6, 0, 0}, {0, 4, 0}, {max, 0, max}, {1, 1, max}, {0, max, 1}};
        for (int[] o : outside) {
            check.due("copy(0, " + o[0] + ", 1, " + o[1] + ", " + o[2] + ")", x.copy(0, o[0], 1, o[1], o[2]), PloughDepot.INDEX);
        }
        check.due("status()", x.status(), PloughDepot.INDEX);
        check.due("findings(1)", x.findings(1), outside.length);
        check.due("copy(0, 5, 1, 3, 0): nothing, at the ends", x.copy(0, 5, 1, 3, 0), 1);
        check.due("copy(1, 0, 0, 2, 3)", x.copy(1, 0, 0, 2, 3), 1);
        check.due("read(0, 1)", x.read(0, 1), 11);
        check.due("read(0, 2)", x.read(0, 2), 0);
    }

    private static void copyWithin() {
        PloughDepot x = fourGauges();
        check.due("copy(0, 0, 0, 1, 4): as they were", x.copy(0, 0, 0, 1, 4), 1);
        int[] later = {10, 10, 11, 12, 13};
        for (int i = 0; i < 5; i++) check.due("read(0, " + i + ")", x.read(0, i), later[i]);
        x.undo();
        check.due("copy(0, 1, 0, 0, 4)", x.copy(0, 1, 0, 0, 4), 1);
        int[] sooner = {11, 12, 13, 14, 14};
        for (int i = 0; i < 5; i++) check.due("read(0, " + i + ")", x.read(0, i), sooner[i]);
        x.none(0, 0, 1);
        check.due("copy(0, 0, 0, 4, 1)", x.copy(0, 0, 0, 4, 1), 1);
        check.due("read(0, 4): ENDLESS came with it", x.read(0, 4), PloughDepot.NONE);
    }

    private static void copies() {
        PloughDepot x = fourGauges();
        x.reading(2, 0, 8);
        check.due("copies(0, 2, 1): up to gauge 3, which is missing", x.copies(0, 2, 1), 3);
        check.due("status()", x.status(), PloughDepot.NULL);
        check.due("findings(0)", x.findings(0), 1);
        check.due("read(0, 2)", x.read(0, 2), 10);
        check.due("read(2, 2)", x.read(2, 2), 10);
        check.due("undo()", x.undo(), 1);
        check.due("read(0, 2)", x.read(0, 2), 12);
        check.due("read(2, 2)", x.read(2, 2), 0);
        check.due("copies(0, 3, 1): up to gauge 1, which is too short", x.copies(0, 3, 1), 1);
        check.due("status()", x.status(), PloughDepot.INDEX);
        check.due("read(0, 3)", x.read(0, 3), 10);
        check.due("read(2, 3)", x.read(2, 3), 0);
        check.due("copies(-1, 0, 1)", x.copies(-1, 0, 1), 0);
        check.due("status()", x.status(), PloughDepot.INDEX);
        check.due("findings(1)", x.findings(1), 2);
        check.due("undo(): the refused one was no change", x.undo(), 1);
        check.due("read(0, 3)", x.read(0, 3), 13);
        x.row(3, 3);
        check.due("copies(0, 1, 2)", x.copies(0, 1, 2), 4);
        check.due("status()", x.status(), 0);
        check.due("read(0, 2)", x.read(0, 2), 11);
        check.due("copies(3, 3, 0): none of each", x.copies(3, 3, 0), 4);
        check.due("copies(MAX, 0, MAX)", x.copies(Integer.MAX_VALUE, 0, Integer.MAX_VALUE), 0);
        x.lose(0);
        check.due("copies(0, 0, -1): NULL is met ahead of INDEX", x.copies(0, 0, -1), 0);
        check.due("status()", x.status(), PloughDepot.NULL);
    }

    private static void snowByNearGauges() {
        // a chain 0 - 1 - 2 - 3, a gauge of shorts at 0 that tells 8.0 and one at 3 that tells 2.0
        PloughDepot x = Towns.of(5, new int[] {0, 1, 1}, new int[] {1, 2, 1}, new int[] {2, 3, 1}, new int[] {4, 3, 1});
        x.gauge(0, true);
        x.gauge(3, true);
        x.row(0, 1);
        x.row(1, 1);
        x.reading(0, 0, 80);
        x.reading(1, 0, 20);
        check.due("snow(0)", x.snow(0), 4);
        // street 0 is at gauge 0, street 1 is near both by a street, 2 and 3 are at gauge 1
        int[] due = {80, 50, 20, 20};
        for (int s = 0; s < 4; s++) check.due("told(" + s + ", 0)", x.told(s, 0), due[s]);
        x.undo();
        x.shut(0, true);
        check.due("snow(0): street 0 is shut", x.snow(0), 4);
        check.due("told(0, 0): the gauge stands at it", x.told(0, 0), 80);
        check.due("told(1, 0): gauge 0 is not near any more", x.told(1, 0), 20);
        x.undo();
        x.shut(2, true);
        check.due("snow(0): streets 0 and 2 are shut", x.snow(0), 3);
        check.due("told(1, 0)", x.told(1, 0), 0);
        check.due("told(1, 1): guessed", x.told(1, 1), 1);
        check.due("told(2, 0)", x.told(2, 0), 20);
        x.shut(0, false);
        x.oneWay(0, true);
        check.due("snow(0): a street joins whatever its way", x.snow(0), 4);
        check.due("told(1, 0)", x.told(1, 0), 80);
        check.due("told(1, 1): not guessed any more", x.told(1, 1), 0);
        check.due("told(0, 0): more", x.told(0, 0), 160);
        PloughDepot y = Towns.of(3, new int[] {0, 1, 1}, new int[] {1, 2, 1});
        y.gauge(0, true);
        y.gauge(1, true);
        y.row(0, 1);
        y.row(1, 1);
        y.reading(0, 0, 100);
        y.reading(1, 0, 10);
        y.snow(0);
        check.due("told(1, 0): (10 * 1 + 1 * 2) / 3", y.told(1, 0), 40);
        check.due("told(0, 0): (10 * 2 + 1 * 2) / 4", y.told(0, 0), 55);
    }

    private static void snowOfFloats() {
        PloughDepot x = Towns.of(2, new int[] {0, 1, 1});
        x.gauge(0, false);
        x.gauge(1, true);
        x.row(0, 2);
        x.row(1, 2);
        x.reading(0, 0, 3);
        x.reading(1, 0, 1);
        x.reading(0, 1, -8);
        x.reading(1, 1, -1);
        x.snow(0);
        float s = 0f + 0.375f * 2f;
        s = s + 1f / 10f * 2f;
        check.due("told(0, 0)", x.told(0, 0), (int) (s / 4f * 10f));
        check.due("snow(1): below 0 counts as 0", x.snow(1), 1);
        check.due("told(0, 0)", x.told(0, 0), (int) (s / 4f * 10f));
        x.reading(0, 1, 5);
        x.snow(1);
        check.due("told(0, 0): 0.3125 more", x.told(0, 0), (int) (s / 4f * 10f) + 3);
    }

    private static void snowIsCapped() {
        PloughDepot x = Towns.of(2, new int[] {0, 1, 1});
        x.gauge(0, false);
        x.row(0, 3);
        x.reading(0, 0, 79992);
        x.reading(0, 1, Integer.MAX_VALUE);
        x.reading(0, 2, 8);
        x.snow(0);
        check.due("told(0, 0)", x.told(0, 0), 99990);
        x.snow(2);
        check.due("told(0, 0)", x.told(0, 0), 100000);
        x.snow(2);
        check.due("told(0, 0)", x.told(0, 0), 100000);
        x.snow(1);
        check.due("told(0, 0): no sum goes over", x.told(0, 0), 100000);
        PloughDepot y = Towns.of(2, new int[] {0, 1, 1});
        y.gauge(0, false);
        y.row(0, 1);
        y.reading(0, 0, Integer.MAX_VALUE);
        check.due("snow(0)", y.snow(0), 1);
        check.due("told(0, 0)", y.told(0, 0), 100000);
    }

    private static void snowFindings() {
        PloughDepot x = Towns.of(3, new int[] {0, 1, 1}, new int[] {1, 2, 1});
        for (int g = 0; g < 4; g++) x.gauge(0, g % 2 == 0);
        x.row(1, 1);
        x.row(2, 2);
        x.row(3, 2);
        x.none(2, 1, 0);
        x.none(3, 1, 1);
        check.due("snow(-1)", x.snow(-1), PloughDepot.BAD);
        check.due("snow(200)", x.snow(200), PloughDepot.BAD);
        check.due("status()", x.status(), PloughDepot.BAD);
        check.due("undo(): of none()", x.undo(), 1);
        x.none(3, 1, 1);
        check.due("snow(1)", x.snow(1), 0);
        check.due("status(): whatever findings come", x.status(), 0);
        check.due("findings(0)", x.findings(0), 1);
        check.due("findings(1)", x.findings(1), 1);
        check.due("told(0, 1)", x.told(0, 1), 1);
        check.due("undo()", x.undo(), 1);
        check.due("told(0, 1)", x.told(0, 1), 0);
        check.due("findings(0): stay", x.findings(0), 1);
        check.due("snow(199)", x.snow(199), 0);
        check.due("findings(1)", x.findings(1), 4);
        check.due("snow(0)", x.snow(0), 2);
        check.due("told(1, 1): near by a street", x.told(1, 1), 0);
    }

    private static void melt() {
        PloughDepot x = Towns.drifted(500);
        check.due("melt(-1, 1)", x.melt(-1, 1), PloughDepot.BAD);
        check.due("melt(1, -1)", x.melt(1, -1), PloughDepot.BAD);
        check.due("melt(-1, 0): BAD is ahead of NO", x.melt(-1, 0), PloughDepot.BAD);
        check.due("melt(1, 0)", x.melt(1, 0), PloughDepot.NO);
        check.due("status()", x.status(), PloughDepot.NO);
        check.due("told(0, 0)", x.told(0, 0), 500);
        check.due("melt(100, 7)", x.melt(100, 7), 14);
        check.due("told(0, 0)", x.told(0, 0), 458);
        check.due("melt(6, 7)", x.melt(6, 7), 0);
        check.due("melt(7, 7)", x.melt(7, 7), 1);
        check.due("told(0, 0)", x.told(0, 0), 455);
        check.due("melt(0, 5)", x.melt(0, 5), 0);
        check.due("undo()", x.undo(), 1);
        check.due("melt(152, 1)", x.melt(152, 1), 152);
        check.due("told(0, 0): not below 0", x.told(0, 0), 0);
        check.due("undo()", x.undo(), 1);
        check.due("told(0, 0)", x.told(0, 0), 455);
        check.due("melt(100001, 1)", x.melt(100001, 1), 100000);
        check.due("melt(MAX, 1)", x.melt(Integer.MAX_VALUE, 1), 100000);
        check.due("melt(MAX, MAX)", x.melt(Integer.MAX_VALUE, Integer.MAX_VALUE), 1);
        int[][] more = {{16777217, 3}, {33554435, 1000}, {1999999999, 777}, {2147483647, 33333}, {123456789, 123457}, {99999999, 2097151}, {20000001, 7001}};
        for (int[] m : more) {
            float t = (float) m[0] / 8f;
            float s = (float) m[1] / 8f;
            check.due("melt(" + m[0] + ", " + m[1] + ")", x.melt(m[0], m[1]), Math.min(100000, (int) ((t - t % s) / s)));
        }
    }
}
