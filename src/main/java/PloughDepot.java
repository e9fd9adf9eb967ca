import java.util.Arrays;

/** The depot of a snowed-in town. README.md says how to use it; the promises of its document are kept here. */
public final class PloughDepot {
    public static final int NONE = -1, BAD = -2, FULL = -3, NULL = -4, INDEX = -5, CAST = -6, SIZE = -7, NO = -8, DEEP = -9;

    private static final int MOST_CROSSINGS = 60, MOST_AT_ONCE = 20, MOST_STREETS = 150, MOST_SIDES = 2;
    private static final int MOST_GAUGES = 20, MOST_HOURS = 200, MOST_PLOUGHS = 12;
    private static final int MOST_LENGTH = 10000, MOST_MINUTES = 10000, MOST_DRIFT = 100000;
    private static final int MOST_DRIVES = 2000, MOST_DRIVEN = 50, MOST_ODD = 14, MOST_EXCHANGES = 1000;
    private static final int MOST_SIGNS = 8000, FINDING_KINDS = 5;
    private static final int MELTED = 3, SALTED = 50;
    private static final int TRUCK = 0, BLOWER = 1, SALTER = 2, TRACTOR = 3, PAIR = 4;
    private static final int DEPOT = 0;
    /** Above every way's length, and low enough that two of it still fit into an int. */
    private static final int FAR = 1000000000;

    private final Town town = new Town();
    private final Gauges gauges = new Gauges();
    private final Table parts = new Table(MOST_PLOUGHS, Plough.COLUMNS);
    private final Round round = new Round();
    private final Town townBefore = new Town();
    private final Gauges gaugesBefore = new Gauges();
    private final Table partsBefore = new Table(MOST_PLOUGHS, Plough.COLUMNS);
    private final Round roundBefore = new Round();
    private boolean canUndo = false;

    /** Ploughs never change, so undo() needs no copies of them: parts tells how many there are. */
    private final Plough[] ploughs = new Plough[MOST_PLOUGHS];
    private final Table partsDraft = new Table(MOST_PLOUGHS, Plough.COLUMNS);
    private final Ways ways = new Ways(town);
    private final RoundMaker maker = new RoundMaker(town, ways);
    private final char[] signs = new char[MOST_SIGNS];
    private int signCount = 0;
    /** One number in an array, so that the bodies of all kinds of ploughs can add to it. */
    private final int[] trace = new int[1];
    private final int[] findings = new int[FINDING_KINDS];
    private int status = 0;
    private int looks = 0;

    public PloughDepot() {
    }

    // ---- 1 the map

    public int crossings(int n) {
        if (n < 1 || n > MOST_AT_ONCE) {
            return refuse(BAD);
        }
        if (town.crossings + n > MOST_CROSSINGS) {
            return refuse(FULL);
        }
        save();
        town.crossings += n;
        mapChanged();
        return answer(town.crossings);
    }

    public int street(int a, int b, int length, boolean oneWay) {
        if (!town.hasCrossing(a) || !town.hasCrossing(b) || a == b || length < 1 || length > MOST_LENGTH) {
            return refuse(BAD);
        }
        if (town.streets.isFull()) {
            return refuse(FULL);
        }
        save();
        int street = town.streets.add();
        town.streets.set(street, Town.A, a);
        town.streets.set(street, Town.B, b);
        town.streets.set(street, Town.LENGTH, length);
        town.streets.set(street, Town.ONE_WAY, oneWay ? 1 : 0);
        town.streets.set(street, Town.SIDES, 1);
        mapChanged();
        return answer(street);
    }

    public int oneWay(int street, boolean is) {
        return changeStreet(street, Town.ONE_WAY, is ? 1 : 0);
    }

    public int shut(int street, boolean is) {
        return changeStreet(street, Town.SHUT, is ? 1 : 0);
    }

    public int sides(int street, int n) {
        if (!town.streets.hasRow(street) || n < 0 || n > MOST_SIDES) {
            return refuse(BAD);
        }
        int was = changeStreet(street, Town.SIDES, n);
        town.streets.set(street, Town.CLEARED, 0);
        return was;
    }

    public int told(int street, int what) {
        if (!town.streets.hasCell(street, what)) {
            return refuse(BAD);
        }
        return answer(town.streets.get(street, what));
    }

    public int way(int a, int b) {
        if (!town.hasCrossing(a) || !town.hasCrossing(b)) {
            return refuse(BAD);
        }
        ways.learnTo(b);
        int length = ways.lengthOf(a, b);
        return length >= FAR ? refuse(NO) : answer(length);
    }

    public int wayAt(int a, int b, int i) {
        if (!town.hasCrossing(a) || !town.hasCrossing(b)) {
            return refuse(BAD);
        }
        ways.learnTo(b);
        if (ways.lengthOf(a, b) >= FAR) {
            return refuse(NO);
        }
        int at = a;
        for (int n = 0; n < MOST_CROSSINGS && at != b; n++) {
            int street = ways.streetOn(at, b);
            if (n == i) {
                return answer(street);
            }
            at = town.otherEnd(street, at);
        }
        return answer(NONE);
    }

    // ---- 2 gauges and snow

    public int gauge(int crossing, boolean shorts) {
        if (!town.hasCrossing(crossing)) {
            return refuse(BAD);
        }
        if (gauges.isFull()) {
            return refuse(FULL);
        }
        save();
        return answer(gauges.add(crossing, shorts));
    }

    public int row(int gauge, int n) {
        if (!gauges.has(gauge) || n > MOST_HOURS) {
            return refuse(BAD);
        }
        if (n < 0) {
            return refuse(SIZE);
        }
        save();
        gauges.giveRow(gauge, n);
        return answer(1);
    }

    public int lose(int gauge) {
        if (!gauges.has(gauge)) {
            return refuse(BAD);
        }
        save();
        int had = gauges.hours[gauge] == NONE ? 0 : 1;
        gauges.hours[gauge] = NONE;
        return answer(had);
    }

    public int reading(int gauge, int hour, int v) {
        if (!gauges.has(gauge)) {
            return refuse(BAD);
        }
        return changeReading(gauge, hour, gauges.shorts[gauge] ? Gauges.ofShort((short) v) : Gauges.ofFloat((float) v / 8f));
    }

    public int none(int gauge, int hour, int which) {
        if (!gauges.has(gauge) || which < 0 || which > 1) {
            return refuse(BAD);
        }
        return changeReading(gauge, hour, Gauges.tellsNothing());
    }

    public int read(int gauge, int hour) {
        if (!gauges.has(gauge)) {
            return refuse(BAD);
        }
        int why = gauges.whyNotRead(gauge, hour);
        return why != 0 ? refuse(why) : answer(gauges.tenths(gauge, hour));
    }

    public int copy(int from, int i, int to, int j, int n) {
        if (!gauges.has(from) || !gauges.has(to) || gauges.shorts[from] != gauges.shorts[to]) {
            return refuse(BAD);
        }
        int why = gauges.whyNotCopied(from, i, to, j, n);
        if (why != 0) {
            return refuse(why);
        }
        save();
        gauges.copyReadings(from, i, to, j, n);
        return answer(1);
    }

    public int copies(int i, int j, int n) {
        status = 0;
        int copied = 0;
        for (int gauge = 0; gauge < gauges.number; gauge++) {
            int why = gauges.whyNotCopied(gauge, i, gauge, j, n);
            if (why != 0) {
                refuse(why);
                break;
            }
            if (copied == 0) {
                save();
            }
            gauges.copyReadings(gauge, i, gauge, j, n);
            copied++;
        }
        return copied;
    }

    public int snow(int hour) {
        if (hour < 0 || hour >= MOST_HOURS) {
            return refuse(BAD);
        }
        save();
        for (int gauge = 0; gauge < gauges.number; gauge++) {
            int why = gauges.whyNotRead(gauge, hour);
            countFinding(why);
            gauges.hear(gauge, why == 0 ? gauges.xAt(gauge, hour) : Gauges.tellsNothing(), town);
        }
        int sure = 0;
        for (int street = 0; street < town.streets.rows; street++) {
            sure += snowOn(street) ? 1 : 0;
        }
        return answer(sure);
    }

    public int melt(int t, int s) {
        if (t < 0 || s < 0) {
            return refuse(BAD);
        }
        if (s == 0) {
            return refuse(NO);
        }
        save();
        int times = wholeIn(t, s);
        for (int street = 0; street < town.streets.rows; street++) {
            town.lessDrift(street, MELTED * times);
        }
        return answer(times);
    }

    // ---- 3 ploughs

    public int plough(int kind, int minutes) {
        if (kind < TRUCK || kind > TRACTOR || minutes < 0 || minutes > MOST_MINUTES) {
            return refuse(BAD);
        }
        if (parts.isFull()) {
            return refuse(FULL);
        }
        save();
        return answer(addPlough(newPlough(kind), kind, minutes));
    }

    public int pair(int p, int q, int minutes) {
        Plough first = ploughAt(p);
        Plough second = ploughAt(q);
        if (first == null || second == null || p == q || minutes < 0 || minutes > MOST_MINUTES) {
            return refuse(BAD);
        }
        if (parts.isFull()) {
            return refuse(FULL);
        }
        int why = whyNotPaired(p, first);
        if (why == 0) {
            why = whyNotPaired(q, second);
        }
        if (why != 0) {
            return refuse(why);
        }
        save();
        takeOut(p);
        takeOut(q);
        return answer(addPlough(new Pair(first, second), PAIR, minutes));
    }

    public int out(int plough) {
        if (!parts.hasRow(plough)) {
            return refuse(BAD);
        }
        save();
        int was = isOut(plough) ? 0 : 1;
        takeOut(plough);
        return answer(was);
    }

    public int asks(int plough, int street, int what) {
        Plough asked = ploughAt(plough);
        if (asked == null || !town.streets.hasRow(street) || what < 0 || what > 3) {
            return refuse(BAD);
        }
        if (isOut(plough)) {
            return refuse(NULL);
        }
        switch (what) {
            case 0:
                return answer(asked.speed);
            case 1:
                return answer(asked.reach);
            case 2:
                return answer(asked.takes(town.streets.get(street, Town.LENGTH), trace));
            default:
                int passes = asked.passes(town.streets.get(street, Town.DRIFT), trace);
                return passes == DEEP ? refuse(DEEP) : answer(passes);
        }
    }

    public int salt(int plough, int street) {
        Plough asked = ploughAt(plough);
        if (asked == null || !town.streets.hasRow(street)) {
            return refuse(BAD);
        }
        if (isOut(plough)) {
            return refuse(NULL);
        }
        if (!(asked instanceof Salter)) {
            return refuse(CAST);
        }
        save();
        town.lessDrift(street, SALTED);
        return answer(town.streets.get(street, Town.DRIFT));
    }

    // ---- 4 the round and its parts

    public int odd(int i) {
        int odds = maker.listOdd();
        return answer(i >= 0 && i < odds ? maker.odd[i] : NONE);
    }

    public int least(int bits) {
        int odds = maker.listOdd();
        if (odds > MOST_ODD || town.hasOneWay() || bits < 0 || bits >= 1 << odds) {
            return refuse(BAD);
        }
        ways.learnAll();
        int together = maker.leastOf(bits);
        return together >= FAR ? refuse(NO) : answer(together);
    }

    public int round() {
        ways.learnAll();
        int made = town.hasOneWay() ? maker.makeByNearest() : maker.makeByPairs();
        if (made < 0) {
            return refuse(made);
        }
        save();
        round.take(maker.draft);
        for (int plough = 0; plough < parts.rows; plough++) {
            dropPart(parts, plough);
        }
        return answer(made);
    }

    public int at(int i, int what) {
        if (what < 0 || what >= Round.COLUMNS) {
            return refuse(BAD);
        }
        return answer(round.drives.hasRow(i) ? round.drives.get(i, what) : NONE);
    }

    public int length(int what) {
        if (what < 0 || what >= Round.SUMS) {
            return refuse(BAD);
        }
        return answer(round.sums[what]);
    }

    public int partner(int crossing) {
        if (!town.hasCrossing(crossing)) {
            return refuse(BAD);
        }
        return answer(round.partners[crossing]);
    }

    public int split() {
        partsDraft.take(parts);
        int next = 0;
        for (int plough = 0; plough < parts.rows; plough++) {
            next = isOut(plough) ? next : deal(plough, next);
        }
        if (next < round.drives.rows) {
            return answer(0);
        }
        save();
        parts.take(partsDraft);
        return answer(1);
    }

    public int part(int plough, int what) {
        if (!parts.hasCell(plough, what)) {
            return refuse(BAD);
        }
        return answer(parts.get(plough, what));
    }

    public int go(int plough, int n) {
        Plough driver = ploughAt(plough);
        if (driver == null || n < 1 || n > MOST_DRIVEN) {
            return refuse(BAD);
        }
        if (isOut(plough)) {
            return refuse(NULL);
        }
        int left = parts.get(plough, Plough.DRIVES) - parts.get(plough, Plough.DRIVEN);
        if (left <= 0) {
            return refuse(NO);
        }
        int most = Math.min(n, left);
        int driven = 0;
        for (; driven < most && seesNextOpen(plough); driven++) {
            if (driven == 0) {
                save();
            }
            driveNext(plough, driver);
        }
        return answer(driven);
    }

    public int looks() {
        return looks;
    }

    public int text() {
        signCount = 0;
        for (int drive = 0; drive < round.drives.rows; drive++) {
            int street = round.drives.get(drive, Round.STREET);
            int ended = ploughEndingAt(drive);
            if (signCount + 1 + digitsOf(street) + (ended == NONE ? 0 : 1) > MOST_SIGNS) {
                break;
            }
            putSign(round.drives.get(drive, Round.CLEARS) == 1 ? '+' : '-');
            putNumber(street);
            if (ended != NONE) {
                putSign('A' + ended);
            }
        }
        return answer(signCount);
    }

    public int sign(int i) {
        return i >= 0 && i < signCount && i < signs.length ? signs[i] : NONE;
    }

    // ---- 5 findings, refusals, changes

    public int digest() {
        int all = 31 * 7 + town.crossings;
        all = town.streets.digestOnto(all);
        all = gauges.digestOnto(all);
        all = parts.digestOnto(all);
        return answer(round.drives.digestOnto(all));
    }

    public int undo() {
        if (!canUndo) {
            return answer(0);
        }
        town.take(townBefore);
        gauges.take(gaugesBefore);
        parts.take(partsBefore);
        round.take(roundBefore);
        canUndo = false;
        mapChanged();
        return answer(1);
    }

    public int findings(int kind) {
        return kind >= 0 && kind < FINDING_KINDS ? findings[kind] : BAD;
    }

    public int status() {
        return status;
    }

    public int trace() {
        return trace[0];
    }

    public int count(int what) {
        switch (what) {
            case 0:
                return town.crossings;
            case 1:
                return town.streets.rows;
            case 2:
                return gauges.number;
            case 3:
                return parts.rows;
            default:
                return BAD;
        }
    }

    // ---- how calls end

    private int answer(int value) {
        status = 0;
        return value;
    }

    private int refuse(int why) {
        status = why;
        countFinding(why);
        return why;
    }

    private void countFinding(int why) {
        switch (why) {
            case NULL:
                findings[0]++;
                break;
            case INDEX:
                findings[1]++;
                break;
            case CAST:
                findings[2]++;
                break;
            case SIZE:
                findings[3]++;
                break;
            case DEEP:
                findings[4]++;
                break;
            default:
                break;
        }
    }

    /** Called ahead of every change, once nothing can refuse it any more. */
    private void save() {
        townBefore.take(town);
        gaugesBefore.take(gauges);
        partsBefore.take(parts);
        roundBefore.take(round);
        canUndo = true;
    }

    private void mapChanged() {
        ways.forget();
        maker.forget();
    }

    // ---- parts of single calls

    private int changeStreet(int street, int column, int value) {
        if (!town.streets.hasRow(street)) {
            return refuse(BAD);
        }
        save();
        int was = town.streets.get(street, column);
        town.streets.set(street, column, value);
        mapChanged();
        return answer(was);
    }

    private int changeReading(int gauge, int hour, float x) {
        int why = gauges.whyNotRead(gauge, hour);
        if (why != 0) {
            return refuse(why);
        }
        save();
        gauges.put(gauge, hour, x);
        return answer(1);
    }

    private boolean snowOn(int street) {
        int a = town.streets.get(street, Town.A);
        int b = town.streets.get(street, Town.B);
        float sum = 0f;
        float weight = 0f;
        for (int gauge = 0; gauge < gauges.number; gauge++) {
            int near = gauges.nearness(gauge, a, b);
            if (near > 0) {
                sum = sum + gauges.heard[gauge] * (float) near;
                weight = weight + (float) near;
            }
        }
        boolean sure = weight > 0f;
        if (sure) {
            int more = Math.min(MOST_DRIFT, (int) ((sum / weight) * 10f));
            int drift = town.streets.get(street, Town.DRIFT) + more;
            town.streets.set(street, Town.DRIFT, Math.min(MOST_DRIFT, drift));
        }
        town.streets.set(street, Town.GUESSED, sure ? 0 : 1);
        return sure;
    }

    /** The rest is taken of whole numbers: floats of ints are whole, and dividing both by 8 only divides the rest by 8. */
    private static int wholeIn(int t, int s) {
        long wholeS = (long) (float) s;
        if (wholeS <= 0L) {
            return 0;
        }
        long wholeRest = (long) (float) t % wholeS;
        float whole = ((float) t / 8f - (float) wholeRest / 8f) / ((float) s / 8f);
        return Math.min(MOST_DRIFT, (int) whole);
    }

    private static Plough newPlough(int kind) {
        switch (kind) {
            case BLOWER:
                return new Blower();
            case SALTER:
                return new Salter();
            case TRACTOR:
                return new Tractor();
            default:
                return new Plough(50, 200);
        }
    }

    private int addPlough(Plough plough, int kind, int minutes) {
        int number = parts.add();
        if (number < 0 || number >= ploughs.length) {
            return FULL;
        }
        ploughs[number] = plough;
        parts.set(number, Plough.MINUTES, minutes);
        parts.set(number, Plough.KIND, kind);
        return number;
    }

    private Plough ploughAt(int plough) {
        return parts.hasRow(plough) && plough < ploughs.length ? ploughs[plough] : null;
    }

    private boolean isOut(int plough) {
        return parts.get(plough, Plough.KIND) == NONE;
    }

    private int whyNotPaired(int number, Plough plough) {
        if (isOut(number)) {
            return NULL;
        }
        return plough instanceof Pair ? CAST : 0;
    }

    private void takeOut(int plough) {
        dropPart(parts, plough);
        parts.set(plough, Plough.KIND, NONE);
    }

    private static void dropPart(Table parts, int plough) {
        for (int column = 0; column < Plough.COLUMNS; column++) {
            if (column != Plough.MINUTES && column != Plough.KIND) {
                parts.set(plough, column, 0);
            }
        }
    }

    /** Gives a plough its part of the draft, from a drive on: the drive at which it ended. */
    private int deal(int number, int first) {
        Plough plough = ploughAt(number);
        if (plough == null) {
            return first;
        }
        int minutes = 0;
        int next = first;
        for (; next < round.drives.rows; next++) {
            int more = minutesOf(plough, next);
            if (more == DEEP || minutes + more > parts.get(number, Plough.MINUTES)) {
                break;
            }
            minutes += more;
        }
        dropPart(partsDraft, number);
        partsDraft.set(number, Plough.FIRST, first);
        partsDraft.set(number, Plough.DRIVES, next - first);
        partsDraft.set(number, Plough.FOUND, minutes);
        return next;
    }

    private int minutesOf(Plough plough, int drive) {
        int street = round.drives.get(drive, Round.STREET);
        boolean clears = round.drives.get(drive, Round.CLEARS) == 1;
        int passes = clears ? plough.passes(town.streets.get(street, Town.DRIFT), trace) : 1;
        return passes == DEEP ? DEEP : passes * plough.takes(town.streets.get(street, Town.LENGTH), trace);
    }

    private int nextDrive(int plough) {
        return parts.get(plough, Plough.FIRST) + parts.get(plough, Plough.DRIVEN);
    }

    private boolean seesNextOpen(int plough) {
        looks++;
        return town.isOpen(round.drives.get(nextDrive(plough), Round.STREET));
    }

    private void driveNext(int number, Plough plough) {
        int drive = nextDrive(number);
        int street = round.drives.get(drive, Round.STREET);
        int passes = 1;
        if (round.drives.get(drive, Round.CLEARS) == 1) {
            passes = clear(number, plough, street);
        }
        int minutes = passes * plough.takes(town.streets.get(street, Town.LENGTH), trace);
        parts.raise(number, Plough.DRIVEN, 1);
        parts.raise(number, Plough.SPENT, minutes);
        if (parts.get(number, Plough.SPENT) > parts.get(number, Plough.MINUTES)) {
            parts.raise(number, Plough.LATE, 1);
        }
    }

    /** How often the street is driven for it: once, too, if it is too deep to be cleared. */
    private int clear(int number, Plough plough, int street) {
        int passes = plough.passes(town.streets.get(street, Town.DRIFT), trace);
        if (passes == DEEP) {
            countFinding(DEEP);
            return 1;
        }
        if (passes > 1) {
            parts.raise(number, Plough.REPEATED, 1);
        }
        town.clearSide(street);
        return passes;
    }

    private static int digitsOf(int street) {
        return street < 10 ? 1 : street < 100 ? 2 : 3;
    }

    private void putNumber(int street) {
        int digits = digitsOf(street);
        if (digits > 2) {
            putSign('0' + street / 100 % 10);
        }
        if (digits > 1) {
            putSign('0' + street / 10 % 10);
        }
        putSign('0' + street % 10);
    }

    private void putSign(int sign) {
        if (signCount >= 0 && signCount < signs.length) {
            signs[signCount] = (char) sign;
            signCount++;
        }
    }

    private int ploughEndingAt(int drive) {
        for (int plough = 0; plough < parts.rows; plough++) {
            int drives = parts.get(plough, Plough.DRIVES);
            if (drives > 0 && parts.get(plough, Plough.FIRST) + drives - 1 == drive) {
                return plough;
            }
        }
        return NONE;
    }

    // ---- classes inside

    /** Rows of numbers, in the columns in which told(), part() and at() tell them. */
    private static final class Table {
        final int columns;
        final int[] cells;
        int rows = 0;

        Table(int mostRows, int columns) {
            this.columns = columns;
            cells = new int[Math.max(0, mostRows * columns)];
        }

        boolean hasRow(int row) {
            return row >= 0 && row < rows;
        }

        boolean hasCell(int row, int column) {
            return row >= 0 && row < rows && column >= 0 && column < columns;
        }

        boolean isFull() {
            return (rows + 1) * columns > cells.length;
        }

        /** A row of zeros behind the others: its number. */
        int add() {
            if (isFull()) {
                return NONE;
            }
            rows++;
            for (int column = 0; column < columns; column++) {
                set(rows - 1, column, 0);
            }
            return rows - 1;
        }

        int get(int row, int column) {
            return row >= 0 && row < rows && column >= 0 && column < columns ? cells[row * columns + column] : 0;
        }

        void set(int row, int column, int value) {
            if (row >= 0 && row < rows && column >= 0 && column < columns) {
                cells[row * columns + column] = value;
            }
        }

        void raise(int row, int column, int by) {
            set(row, column, get(row, column) + by);
        }

        void take(Table other) {
            rows = other.rows;
            System.arraycopy(other.cells, 0, cells, 0, Math.min(rows * columns, cells.length));
        }

        int digestOnto(int start) {
            int all = start;
            for (int i = 0; i < rows * columns && i < cells.length; i++) {
                all = 31 * all + cells[i];
            }
            return all;
        }
    }

    private static final class Town {
        static final int DRIFT = 0, GUESSED = 1, CLEARED = 2, SIDES = 3, SHUT = 4, ONE_WAY = 5, LENGTH = 6, A = 7, B = 8;
        static final int COLUMNS = 9;

        final Table streets = new Table(MOST_STREETS, COLUMNS);
        int crossings = 0;

        void take(Town other) {
            crossings = other.crossings;
            streets.take(other.streets);
        }

        boolean hasCrossing(int crossing) {
            return crossing >= 0 && crossing < crossings;
        }

        boolean isOpen(int street) {
            return streets.get(street, SHUT) == 0;
        }

        /** The sides that must be cleared. */
        int sidesToClear(int street) {
            return isOpen(street) ? streets.get(street, SIDES) : 0;
        }

        int otherEnd(int street, int crossing) {
            int a = streets.get(street, A);
            return a == crossing ? streets.get(street, B) : a;
        }

        boolean hasOneWay() {
            for (int street = 0; street < streets.rows; street++) {
                if (isOpen(street) && streets.get(street, ONE_WAY) == 1) {
                    return true;
                }
            }
            return false;
        }

        /** The crossings that an open street joins with a crossing, as bits. */
        long joinedTo(int crossing) {
            long joined = 0L;
            for (int street = 0; street < streets.rows; street++) {
                int a = streets.get(street, A);
                int b = streets.get(street, B);
                if (isOpen(street) && (a == crossing || b == crossing)) {
                    joined |= 1L << (a == crossing ? b : a);
                }
            }
            return joined;
        }

        void lessDrift(int street, int less) {
            streets.set(street, DRIFT, Math.max(0, streets.get(street, DRIFT) - less));
        }

        void clearSide(int street) {
            if (streets.get(street, CLEARED) < streets.get(street, SIDES)) {
                streets.raise(street, CLEARED, 1);
            }
            if (streets.get(street, CLEARED) >= streets.get(street, SIDES)) {
                streets.set(street, DRIFT, 0);
            }
        }
    }

    /** A reading is kept as the x that it tells to SNOW, since no call can tell more of it; below 0: it tells nothing. */
    private static final class Gauges {
        final int[] crossing = new int[MOST_GAUGES];
        final boolean[] shorts = new boolean[MOST_GAUGES];
        /** NONE: the row is missing. */
        final int[] hours = new int[MOST_GAUGES];
        final float[] x = new float[MOST_GAUGES * MOST_HOURS];
        /** What the latest SNOW heard of each gauge, and the crossings joined with its own, as bits. */
        final float[] heard = new float[MOST_GAUGES];
        final long[] joined = new long[MOST_GAUGES];
        int number = 0;

        static float tellsNothing() {
            return -1f;
        }

        static float ofFloat(float centimetres) {
            return centimetres < 0f ? 0f : centimetres;
        }

        static float ofShort(short tenths) {
            if (tenths == -32768 || tenths == 32767) {
                return tellsNothing();
            }
            return ofFloat((float) tenths / 10f);
        }

        boolean has(int gauge) {
            return gauge >= 0 && gauge < number && gauge < MOST_GAUGES;
        }

        boolean isFull() {
            return number >= MOST_GAUGES;
        }

        int add(int at, boolean ofShorts) {
            if (isFull()) {
                return NONE;
            }
            crossing[number] = at;
            shorts[number] = ofShorts;
            hours[number] = NONE;
            number++;
            return number - 1;
        }

        void giveRow(int gauge, int n) {
            hours[gauge] = n;
            for (int hour = 0; hour < n; hour++) {
                put(gauge, hour, 0f);
            }
        }

        int whyNotRead(int gauge, int hour) {
            if (hours[gauge] == NONE) {
                return NULL;
            }
            return hour < 0 || hour >= hours[gauge] ? INDEX : 0;
        }

        int whyNotCopied(int from, int i, int to, int j, int n) {
            if (hours[from] == NONE || hours[to] == NONE) {
                return NULL;
            }
            if (i < 0 || j < 0 || n < 0) {
                return INDEX;
            }
            // no sum of the arguments is taken: it could pass the greatest int
            return n > hours[from] - i || n > hours[to] - j ? INDEX : 0;
        }

        void copyReadings(int from, int i, int to, int j, int n) {
            if (whyNotCopied(from, i, to, j, n) == 0) {
                System.arraycopy(x, from * MOST_HOURS + i, x, to * MOST_HOURS + j, n);
            }
        }

        void put(int gauge, int hour, float value) {
            if (whyNotRead(gauge, hour) == 0) {
                x[gauge * MOST_HOURS + hour] = value;
            }
        }

        float xAt(int gauge, int hour) {
            return whyNotRead(gauge, hour) == 0 ? x[gauge * MOST_HOURS + hour] : tellsNothing();
        }

        int tenths(int gauge, int hour) {
            float told = xAt(gauge, hour);
            return told < 0f ? NONE : Math.min(MOST_DRIFT, (int) (told * 10f));
        }

        void hear(int gauge, float told, Town town) {
            heard[gauge] = told;
            joined[gauge] = town.joinedTo(crossing[gauge]);
        }

        /** How much a gauge weighs for a street from a to b; 0: it is not near, or tells nothing. */
        int nearness(int gauge, int a, int b) {
            if (heard[gauge] < 0f) {
                return 0;
            }
            if (crossing[gauge] == a || crossing[gauge] == b) {
                return 2;
            }
            return (joined[gauge] >> a & 1L) == 1L || (joined[gauge] >> b & 1L) == 1L ? 1 : 0;
        }

        void take(Gauges other) {
            number = other.number;
            for (int gauge = 0; gauge < number; gauge++) {
                crossing[gauge] = other.crossing[gauge];
                shorts[gauge] = other.shorts[gauge];
                hours[gauge] = other.hours[gauge];
                int start = gauge * MOST_HOURS;
                System.arraycopy(other.x, start, x, start, Math.max(0, hours[gauge]));
            }
        }

        int digestOnto(int start) {
            int all = start;
            for (int gauge = 0; gauge < number; gauge++) {
                all = 31 * all + crossing[gauge];
                all = 31 * all + hours[gauge];
                for (int hour = 0; hour < hours[gauge]; hour++) {
                    all = 31 * all + tenths(gauge, hour);
                }
            }
            return all;
        }
    }

    /** A plough as trucks are; the other kinds answer otherwise. */
    private static class Plough {
        static final int FIRST = 0, DRIVES = 1, DRIVEN = 2, SPENT = 3, FOUND = 4, MINUTES = 5, KIND = 6, REPEATED = 7, LATE = 8;
        static final int COLUMNS = 9;

        final int speed;
        final int reach;

        Plough(int speed, int reach) {
            this.speed = speed;
            this.reach = reach;
        }

        int takes(int length, int[] trace) {
            trace[0] += 1;
            return speed > 0 ? (length + speed - 1) / speed : length;
        }

        int passes(int drift, int[] trace) {
            trace[0] += 100;
            return passesOf(drift, 2);
        }

        /** One pass up to reach, and as many as most up to most times reach. */
        final int passesOf(int drift, int most) {
            if (drift <= reach) {
                return 1;
            }
            return drift <= most * reach ? most : DEEP;
        }
    }

    private static final class Blower extends Plough {
        Blower() {
            super(30, 600);
        }

        @Override
        int passes(int drift, int[] trace) {
            trace[0] += 1000;
            return passesOf(drift, 3);
        }
    }

    private static final class Salter extends Plough {
        Salter() {
            super(45, 200);
        }

        @Override
        int takes(int length, int[] trace) {
            trace[0] += 20;
            return super.takes(length, trace) + 2;
        }
    }

    private static final class Tractor extends Plough {
        Tractor() {
            super(20, 400);
        }

        @Override
        int takes(int length, int[] trace) {
            trace[0] += 10;
            return super.takes(length, trace) + 1;
        }
    }

    /** Its two are never pairs themselves, so what it asks of them goes one level deep. */
    private static final class Pair extends Plough {
        final Plough first;
        final Plough second;

        Pair(Plough first, Plough second) {
            super(Math.min(first.speed, second.speed), first.reach + second.reach);
            this.first = first;
            this.second = second;
        }

        @Override
        int takes(int length, int[] trace) {
            trace[0] += 5;
            int firstTakes = first.takes(length, trace);
            return Math.max(firstTakes, second.takes(length, trace));
        }

        @Override
        int passes(int drift, int[] trace) {
            trace[0] += 10000;
            return passesOf(drift, 2);
        }
    }

    private static final class Round {
        static final int STREET = 0, FROM = 1, TO = 2, CLEARS = 3, COLUMNS = 4;
        static final int DRIVES = 0, TOGETHER = 1, CLEARING = 2, JOININGS = 3, EXCHANGES = 4, PAIRS = 5, HOW = 6, SUMS = 7;

        final Table drives = new Table(MOST_DRIVES, COLUMNS);
        /** What length() tells. */
        final int[] sums = new int[SUMS];
        final int[] partners = new int[MOST_CROSSINGS];

        Round() {
            Arrays.fill(partners, NONE);
        }

        void begin(int how) {
            drives.rows = 0;
            Arrays.fill(sums, 0);
            sums[HOW] = how;
            Arrays.fill(partners, NONE);
        }

        void drive(int street, int from, int to, boolean clears, int length) {
            int drive = drives.add();
            drives.set(drive, STREET, street);
            drives.set(drive, FROM, from);
            drives.set(drive, TO, to);
            drives.set(drive, CLEARS, clears ? 1 : 0);
            sums[DRIVES] = drives.rows;
            sums[TOGETHER] += length;
            sums[CLEARING] += clears ? 1 : 0;
        }

        void take(Round other) {
            drives.take(other.drives);
            System.arraycopy(other.sums, 0, sums, 0, SUMS);
            System.arraycopy(other.partners, 0, partners, 0, MOST_CROSSINGS);
        }
    }

    /** THE WAYS of the town; what was learnt of them is kept until the map changes. */
    private static final class Ways {
        final Town town;
        /** The ends of open streets, by crossing and then by street: those of crossing c stand from first[c] up to first[c + 1]. */
        final int[] first = new int[MOST_CROSSINGS + 1];
        final int[] street = new int[2 * MOST_STREETS];
        final int[] otherEnd = new int[2 * MOST_STREETS];
        final int[] length = new int[2 * MOST_STREETS];
        final boolean[] leaves = new boolean[2 * MOST_STREETS];
        final boolean[] comes = new boolean[2 * MOST_STREETS];
        /** least[to][from], where known[to]. */
        final int[][] least = new int[MOST_CROSSINGS][MOST_CROSSINGS];
        final boolean[] known = new boolean[MOST_CROSSINGS];
        final boolean[] settled = new boolean[MOST_CROSSINGS];
        boolean mapRead = false;

        Ways(Town town) {
            this.town = town;
        }

        void forget() {
            mapRead = false;
        }

        void learnAll() {
            if (!mapRead) {
                readMap();
            }
            for (int to = 0; to < town.crossings; to++) {
                learnTo(to);
            }
        }

        /** Needed ahead of all that is asked of ways to a crossing. */
        void learnTo(int to) {
            if (!mapRead) {
                readMap();
            }
            if (!town.hasCrossing(to) || known[to]) {
                return;
            }
            known[to] = true;
            Arrays.fill(least[to], FAR);
            least[to][to] = 0;
            for (int crossing = 0; crossing < town.crossings; crossing++) {
                settled[crossing] = false;
            }
            for (int n = 0; n < town.crossings; n++) {
                int nearest = nearestUnsettled(least[to]);
                if (nearest == NONE) {
                    return;
                }
                settled[nearest] = true;
                comeFrom(nearest, least[to]);
            }
        }

        private int nearestUnsettled(int[] row) {
            int nearest = NONE;
            int nearestLength = FAR;
            for (int crossing = 0; crossing < town.crossings; crossing++) {
                if (!settled[crossing] && row[crossing] < nearestLength) {
                    nearest = crossing;
                    nearestLength = row[crossing];
                }
            }
            return nearest;
        }

        private void comeFrom(int crossing, int[] row) {
            for (int end = first[crossing]; end < first[crossing + 1]; end++) {
                if (comes[end]) {
                    row[otherEnd[end]] = Math.min(row[otherEnd[end]], row[crossing] + length[end]);
                }
            }
        }

        /** The length of the way; FAR: there is none. */
        int lengthOf(int from, int to) {
            int crossings = town.crossings;
            boolean are = from >= 0 && from < crossings && to >= 0 && to < crossings;
            return are && known[to] ? least[to][from] : FAR;
        }

        /** The first street of a way; NONE: it has none. */
        int streetOn(int from, int to) {
            if (from == to || lengthOf(from, to) >= FAR) {
                return NONE;
            }
            int best = NONE;
            int bestEnd = MOST_CROSSINGS;
            for (int end = first[from]; end < first[from + 1]; end++) {
                boolean keeps = length[end] + least[to][otherEnd[end]] == least[to][from];
                if (leaves[end] && keeps && otherEnd[end] < bestEnd) {
                    best = street[end];
                    bestEnd = otherEnd[end];
                }
            }
            return best;
        }

        private void readMap() {
            Arrays.fill(first, 0);
            for (int i = 0; i < town.streets.rows; i++) {
                if (town.isOpen(i)) {
                    first[town.streets.get(i, Town.A)]++;
                    first[town.streets.get(i, Town.B)]++;
                }
            }
            for (int crossing = 0; crossing < MOST_CROSSINGS; crossing++) {
                first[crossing + 1] += first[crossing];
                known[crossing] = false;
            }
            // first[c] is now behind the ends of c: the last street goes first, and counts it down to where they begin
            for (int i = town.streets.rows - 1; i >= 0; i--) {
                if (town.isOpen(i)) {
                    addEnd(i, Town.A, Town.B);
                    addEnd(i, Town.B, Town.A);
                }
            }
            mapRead = true;
        }

        private void addEnd(int i, int here, int there) {
            int crossing = town.streets.get(i, here);
            boolean bothWays = town.streets.get(i, Town.ONE_WAY) == 0;
            first[crossing]--;
            int end = first[crossing];
            if (end < 0 || end >= street.length) {
                return;
            }
            street[end] = i;
            otherEnd[end] = town.streets.get(i, there);
            length[end] = town.streets.get(i, Town.LENGTH);
            leaves[end] = bothWays || here == Town.A;
            comes[end] = bothWays || here == Town.B;
        }
    }

    /** Makes a round, by ways that were learnt before, as a draft: what is refused must leave the round that was. */
    private static final class RoundMaker {
        static final int BY_PAIRS = 1, BY_NEAREST = 2;

        final Town town;
        final Ways ways;
        final Round draft = new Round();
        /** How often each street is left to be driven: TIMES, before the first drive. */
        final int[] left = new int[MOST_STREETS];
        final int[] clearings = new int[MOST_STREETS];
        final boolean[] reached = new boolean[MOST_CROSSINGS];
        final boolean[] stray = new boolean[MOST_CROSSINGS];
        final int[] stack = new int[MOST_CROSSINGS];
        final int[] odd = new int[MOST_CROSSINGS];
        int odds = 0;
        /** LEAST by sets of odd crossings, where leastKnown. */
        final int[] least = new int[1 << MOST_ODD];
        boolean leastKnown = false;
        final int[] lesser = new int[MOST_CROSSINGS / 2];
        final int[] greater = new int[MOST_CROSSINGS / 2];
        int pairs = 0;

        RoundMaker(Town town, Ways ways) {
            this.town = town;
            this.ways = ways;
        }

        void forget() {
            leastKnown = false;
        }

        private void begin(int how) {
            Arrays.fill(clearings, 0);
            draft.begin(how);
        }

        // ---- (A)

        /** How many drives the draft has; below 0: why there is none. */
        int makeByPairs() {
            begin(BY_PAIRS);
            for (int street = 0; street < town.streets.rows; street++) {
                left[street] = town.sidesToClear(street);
            }
            if (!joinAll()) {
                return NO;
            }
            listOdd();
            pairs = 0;
            if (odds <= MOST_ODD) {
                pairByLeast();
            } else {
                pairByExchanges();
            }
            for (int pair = 0; pair < pairs; pair++) {
                draft.partners[lesser[pair]] = greater[pair];
                draft.partners[greater[pair]] = lesser[pair];
                driveWayMore(lesser[pair], greater[pair], 1);
            }
            draft.sums[Round.PAIRS] = pairs;
            int drives = 0;
            for (int street = 0; street < town.streets.rows; street++) {
                drives += left[street];
            }
            return drives > MOST_DRIVES ? FULL : driveAll(drives);
        }

        /** Each joining brings a crossing more, so there are fewer than crossings. */
        private boolean joinAll() {
            for (int n = 0; n < MOST_CROSSINGS; n++) {
                reachFrom(DEPOT);
                if (!markStrays()) {
                    return true;
                }
                if (!joinNearest()) {
                    return false;
                }
                draft.sums[Round.JOININGS]++;
            }
            return false;
        }

        /** Marks the ends of streets left to be driven that are not reached: whether there are such. */
        private boolean markStrays() {
            for (int crossing = 0; crossing < town.crossings; crossing++) {
                stray[crossing] = false;
            }
            boolean some = false;
            for (int street = 0; street < town.streets.rows; street++) {
                int a = town.streets.get(street, Town.A);
                if (left[street] > 0 && !reached[a]) {
                    stray[a] = true;
                    stray[town.streets.get(street, Town.B)] = true;
                    some = true;
                }
            }
            return some;
        }

        private boolean joinNearest() {
            int bestFrom = NONE;
            int bestTo = NONE;
            int bestLength = FAR;
            for (int from = 0; from < town.crossings; from++) {
                for (int to = 0; to < town.crossings; to++) {
                    if (reached[from] && stray[to] && ways.lengthOf(from, to) < bestLength) {
                        bestFrom = from;
                        bestTo = to;
                        bestLength = ways.lengthOf(from, to);
                    }
                }
            }
            if (bestFrom == NONE) {
                return false;
            }
            driveWayMore(bestFrom, bestTo, 2);
            return true;
        }

        private void driveWayMore(int from, int to, int times) {
            int at = from;
            for (int n = 0; n < MOST_CROSSINGS && at != to; n++) {
                int street = ways.streetOn(at, to);
                if (street == NONE) {
                    return;
                }
                left[street] += times;
                at = town.otherEnd(street, at);
            }
        }

        /** Marks the crossings that can be come to along streets left to be driven. */
        private void reachFrom(int start) {
            for (int crossing = 0; crossing < town.crossings; crossing++) {
                reached[crossing] = false;
            }
            reached[start] = true;
            stack[0] = start;
            int open = 1;
            // every crossing is put on the stack once at most
            for (int n = 0; n < MOST_CROSSINGS && open > 0; n++) {
                open--;
                int at = stack[open];
                for (int end = ways.first[at]; end < ways.first[at + 1]; end++) {
                    int next = ways.otherEnd[end];
                    if (left[ways.street[end]] > 0 && !reached[next]) {
                        reached[next] = true;
                        stack[open] = next;
                        open++;
                    }
                }
            }
        }

        /** Lists the odd crossings by sides; joining adds even times, so it makes no others: how many there are. */
        int listOdd() {
            long oddBits = 0L;
            for (int street = 0; street < town.streets.rows; street++) {
                if (town.sidesToClear(street) % 2 == 1) {
                    oddBits ^= 1L << town.streets.get(street, Town.A);
                    oddBits ^= 1L << town.streets.get(street, Town.B);
                }
            }
            odds = 0;
            for (int crossing = 0; crossing < town.crossings; crossing++) {
                if ((oddBits >> crossing & 1L) == 1L) {
                    odd[odds] = crossing;
                    odds++;
                }
            }
            return odds;
        }

        /** The least length of the ways that pair a set of the listed odd crossings; FAR: they cannot be paired. */
        int leastOf(int bits) {
            learnLeast();
            return bits >= 0 && bits < least.length ? least[bits] : FAR;
        }

        private void learnLeast() {
            if (leastKnown || odds > MOST_ODD) {
                return;
            }
            least[0] = 0;
            for (int bits = 1; bits < 1 << odds; bits++) {
                int i = lowest(bits);
                least[bits] = FAR;
                for (int j = i + 1; j < odds; j++) {
                    if ((bits >> j & 1) == 1) {
                        least[bits] = Math.min(least[bits], leastWith(bits, i, j));
                    }
                }
            }
            leastKnown = true;
        }

        private int lowest(int bits) {
            int i = 0;
            while (i < MOST_ODD - 1 && (bits >> i & 1) == 0) {
                i++;
            }
            return i;
        }

        /** LEAST of a set in which i and j are a pair. */
        private int leastWith(int bits, int i, int j) {
            return ways.lengthOf(odd[i], odd[j]) + least[bits ^ 1 << i ^ 1 << j];
        }

        private void pairByLeast() {
            learnLeast();
            int bits = (1 << odds) - 1;
            for (int i = 0; i < odds; i++) {
                for (int j = i + 1; j < odds && (bits >> i & 1) == 1; j++) {
                    if ((bits >> j & 1) == 1 && leastWith(bits, i, j) == least[bits]) {
                        setPair(pairs, odd[i], odd[j]);
                        pairs++;
                        bits ^= 1 << i ^ 1 << j;
                    }
                }
            }
        }

        private void pairByExchanges() {
            for (int i = 0; i + 1 < odds; i += 2) {
                setPair(pairs, odd[i], odd[i + 1]);
                pairs++;
            }
            int exchanges = 0;
            while (exchanges < MOST_EXCHANGES && exchangeFirst()) {
                exchanges++;
            }
            draft.sums[Round.EXCHANGES] = exchanges;
        }

        private boolean exchangeFirst() {
            for (int i = 0; i < pairs; i++) {
                for (int j = i + 1; j < pairs; j++) {
                    if (exchange(i, j)) {
                        return true;
                    }
                }
            }
            return false;
        }

        private boolean exchange(int i, int j) {
            int p = lesser[i];
            int q = greater[i];
            int r = lesser[j];
            int s = greater[j];
            int together = ways.lengthOf(p, q) + ways.lengthOf(r, s);
            if (ways.lengthOf(p, r) + ways.lengthOf(q, s) < together) {
                setPair(i, p, r);
                setPair(j, q, s);
                return true;
            }
            if (ways.lengthOf(p, s) + ways.lengthOf(q, r) < together) {
                setPair(i, p, s);
                setPair(j, q, r);
                return true;
            }
            return false;
        }

        private void setPair(int pair, int one, int other) {
            if (pair >= 0 && pair < lesser.length) {
                lesser[pair] = Math.min(one, other);
                greater[pair] = Math.max(one, other);
            }
        }

        private int driveAll(int drives) {
            int at = DEPOT;
            for (int n = 0; n < drives; n++) {
                int street = takeNext(at);
                if (street == NONE) {
                    return NO;
                }
                drive(street, at, clearings[street] < town.sidesToClear(street));
                at = town.otherEnd(street, at);
            }
            return drives;
        }

        /** The least street behind which all that is left can still be come to; it is left once less then. */
        private int takeNext(int at) {
            for (int end = ways.first[at]; end < ways.first[at + 1]; end++) {
                int street = ways.street[end];
                if (left[street] > 0) {
                    left[street]--;
                    reachFrom(ways.otherEnd[end]);
                    if (reachesAll()) {
                        return street;
                    }
                    left[street]++;
                }
            }
            return NONE;
        }

        private boolean reachesAll() {
            for (int street = 0; street < town.streets.rows; street++) {
                if (left[street] > 0 && !reached[town.streets.get(street, Town.A)]) {
                    return false;
                }
            }
            return true;
        }

        private void drive(int street, int from, boolean clears) {
            clearings[street] += clears ? 1 : 0;
            draft.drive(street, from, town.otherEnd(street, from), clears, town.streets.get(street, Town.LENGTH));
        }

        // ---- (B)

        /** How many drives the draft has; below 0: why there is none. */
        int makeByNearest() {
            begin(BY_NEAREST);
            int at = DEPOT;
            for (int n = 0; n < MOST_STREETS * MOST_SIDES && isLeftToClear(); n++) {
                int street = nearestToClear(at);
                if (street == NONE) {
                    return NO;
                }
                int start = nearestStart(at, street);
                if (!driveEmpty(at, start) || draft.drives.isFull()) {
                    return FULL;
                }
                drive(street, start, true);
                at = town.otherEnd(street, start);
            }
            if (ways.lengthOf(at, DEPOT) >= FAR) {
                return NO;
            }
            return driveEmpty(at, DEPOT) ? draft.drives.rows : FULL;
        }

        private boolean isLeftToClear() {
            for (int street = 0; street < town.streets.rows; street++) {
                if (clearings[street] < town.sidesToClear(street)) {
                    return true;
                }
            }
            return false;
        }

        private int nearestToClear(int at) {
            int best = NONE;
            int bestLength = FAR;
            for (int street = 0; street < town.streets.rows; street++) {
                if (clearings[street] < town.sidesToClear(street)) {
                    int length = ways.lengthOf(at, nearestStart(at, street));
                    if (length < bestLength) {
                        best = street;
                        bestLength = length;
                    }
                }
            }
            return best;
        }

        /** The end of a street at which a drive along it may begin and to which the way is least. */
        private int nearestStart(int at, int street) {
            int a = town.streets.get(street, Town.A);
            int b = town.streets.get(street, Town.B);
            boolean bothWays = town.streets.get(street, Town.ONE_WAY) == 0;
            return bothWays && ways.lengthOf(at, b) < ways.lengthOf(at, a) ? b : a;
        }

        /** Whether the way fits into the draft. */
        private boolean driveEmpty(int from, int to) {
            int at = from;
            for (int n = 0; n < MOST_CROSSINGS && at != to; n++) {
                int street = ways.streetOn(at, to);
                if (street == NONE || draft.drives.isFull()) {
                    return false;
                }
                drive(street, at, false);
                at = town.otherEnd(street, at);
            }
            return true;
        }
    }
}
