import java.util.function.Supplier;

/**
 * Holds single calls against all that the document says of calls that are refused, that are changes, and that only tell.
 * Each call has a town of its own, on which mark, a change that can be seen in digest(), was made last.
 */
final class Edges {
    interface Call {
        int on(PloughDepot x);
    }

    private static final int[] FINDING_KINDS = {PloughDepot.NULL, PloughDepot.INDEX, PloughDepot.CAST, PloughDepot.SIZE, PloughDepot.DEEP};

    private final Check check;
    private final Supplier<PloughDepot> town;
    private final Call mark;
    private PloughDepot x;
    private int aheadOfMark;
    private int marked;
    private int[] before;

    Edges(Check check, Supplier<PloughDepot> town, Call mark) {
        this.check = check;
        this.town = town;
        this.mark = mark;
    }

    /** Refused, the second time too: STATUS and a FINDING tell it, and nothing else is another than ahead of it. */
    void refuses(String call, Call asked, int why) {
        refuses(call, asked, why, 0);
    }

    void refuses(String call, Call asked, int why, int traced) {
        begin(call);
        check.due(call, asked.on(x), why);
        check.due(call + ": status()", x.status(), why);
        check.due(call + ": status() again", x.status(), why);
        stays(call, traced, findingsOf(why));
        check.due(call + ": status() behind other calls", x.status(), 0);
        check.due(call + " again", asked.on(x), why);
        check.due(call + " again: status()", x.status(), why);
        undoesMark(call);
    }

    /** A change: STATUS is 0, and undo() gives what was ahead of it, once. */
    void changes(String call, Call asked, int due) {
        changes(call, asked, due, 0, 0, 0);
    }

    /** A change that finds rows missing, and hours that are not there. */
    void changes(String call, Call asked, int due, int traced, int nulls, int indexes) {
        begin(call);
        check.due(call, asked.on(x), due);
        check.due(call + ": status()", x.status(), 0);
        check.due(call + ": undo()", x.undo(), 1);
        stays(call + ", undone", traced, new int[] {nulls, indexes, 0, 0, 0});
        check.due(call + ": undo() again", x.undo(), 0);
        check.due(call + ": digest() behind the second undo()", x.digest(), marked);
        check.due(call + " once more", asked.on(x), due);
        check.due(call + " once more: undo()", x.undo(), 1);
        check.due(call + " once more: digest()", x.digest(), marked);
    }

    /** No change: STATUS is 0, nothing is another than ahead of it, and undo() is that of the change ahead of it. */
    void tells(String call, Call asked, int due) {
        tells(call, asked, due, 0);
    }

    void tells(String call, Call asked, int due, int traced) {
        begin(call);
        check.due(call, asked.on(x), due);
        check.due(call + ": status()", x.status(), 0);
        stays(call, traced, new int[5]);
        check.due(call + " again", asked.on(x), due);
        undoesMark(call);
    }

    private void begin(String call) {
        x = town.get();
        aheadOfMark = x.digest();
        check.holds(call + ": the mark is taken", mark.on(x) >= 0);
        marked = x.digest();
        check.holds(call + ": the mark is seen", marked != aheadOfMark);
        before = seen();
        check.due(call + ": status() ahead of it", x.status(), 0);
    }

    /** What undo() takes back, or must not touch, and digest() does not tell. */
    private int[] seen() {
        int[] all = new int[18];
        for (int what = 0; what < 7; what++) all[what] = x.length(what);
        for (int what = 0; what < 4; what++) all[7 + what] = x.count(what);
        for (int kind = 0; kind < 5; kind++) all[11 + kind] = x.findings(kind);
        all[16] = x.trace();
        all[17] = x.looks();
        return all;
    }

    private void stays(String call, int traced, int[] found) {
        check.due(call + ": digest()", x.digest(), marked);
        int[] now = seen();
        for (int what = 0; what < 7; what++) check.due(call + ": length(" + what + ")", now[what], before[what]);
        for (int what = 0; what < 4; what++) check.due(call + ": count(" + what + ")", now[7 + what], before[7 + what]);
        for (int kind = 0; kind < 5; kind++) check.due(call + ": findings(" + kind + ")", now[11 + kind], before[11 + kind] + found[kind]);
        check.due(call + ": trace()", now[16], before[16] + traced);
        check.due(call + ": looks()", now[17], before[17]);
    }

    private void undoesMark(String call) {
        check.due(call + ": undo() of the change ahead of it", x.undo(), 1);
        check.due(call + ": digest() ahead of that change", x.digest(), aheadOfMark);
        check.due(call + ": undo() again", x.undo(), 0);
    }

    private static int[] findingsOf(int why) {
        int[] found = new int[5];
        for (int kind = 0; kind < 5; kind++) found[kind] = FINDING_KINDS[kind] == why ? 1 : 0;
        return found;
    }
}
