/** Small towns for the tests. */
final class Towns {
    private Towns() {
    }

    /** Streets as {a, b, length}, driven both ways. */
    static PloughDepot of(int crossings, int[]... streets) {
        PloughDepot x = new PloughDepot();
        for (int left = crossings; left > 0; left -= 20) {
            x.crossings(Math.min(20, left));
        }
        for (int[] s : streets) {
            x.street(s[0], s[1], s[2], false);
        }
        return x;
    }

    /** Two crossings, one street of length 1000 with a drift in tenths of a centimetre, as SNOW brings it. */
    static PloughDepot drifted(int tenths) {
        PloughDepot x = of(2, new int[] {0, 1, 1000});
        snow(x, tenths);
        return x;
    }

    /** Brings tenths (0 .. 32766) by a new gauge of SHORTS at crossing 0, which is lost behind it. */
    static void snow(PloughDepot x, int tenths) {
        int gauge = x.gauge(0, true);
        x.row(gauge, 1);
        x.reading(gauge, 0, tenths);
        x.snow(0);
        x.lose(gauge);
    }
}
