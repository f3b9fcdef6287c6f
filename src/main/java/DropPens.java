import java.util.Arrays;
import java.util.NoSuchElementException;

/**
 * Pens that write by drops: a head of holes, passes over paper, and all that is led about them.
 * The words in capitals are those of the document.
 */
public final class DropPens {
    public static final int NONE = -1;

    private static final int HOLES = 24;
    private static final int ROWS = 24;
    private static final int COLUMNS = 16;
    private static final int CELLS = ROWS * COLUMNS;
    private static final int MOST_PASSES = 4;
    private static final int MOST_DROPS = MOST_PASSES * HOLES;
    private static final int MOST_UNITS = 3 * ROWS;
    private static final int DAYS = 10;
    private static final int MOST_MARKS = 4;
    private static final int MOST_WAITED = 1000;
    private static final int MOST_FILLED = 100000;
    private static final int MOST_TANK = 1000000;
    private static final int MOST_TOLL = 50;
    private static final int MOST_SPEED = 1000000;

    /** What set() numbers: the places in the row of settings. */
    private static final int REACH = 0;
    private static final int MISS = 1;
    private static final int DRIES = 2;
    private static final int WIPE_INK = 3;
    private static final int FLUSH_INK = 4;
    private static final int PRICE = 5;
    private static final int[] LEAST_SETTING = {0, 1, 1, 0, 0, 0};
    private static final int[] MOST_SETTING = {2, 50, 1000, 100, 100, 100};

    /** What ink() numbers: the places in the row of inks. */
    private static final int FILLED = 0;
    private static final int TANK = 1;
    private static final int ON_PAPER = 2;
    private static final int SPILT = 3;
    private static final int CLEANED = 4;
    private static final int INKS = 5;

    private final Ledger ledger;
    private final Ledger[] marked;
    private final int[] settings;
    private final Sketch sketch;
    private final Ways ways;
    private final Tolls tolls;
    private final Chamber chamber;
    private final Probe probe;
    private final Cleaner cleaner;
    private final Neighbours neighbours;
    private final Chances chances;
    private int marks = 0;
    private int prints = 0;

    public DropPens() {
        // the parts are tied together ahead of the object, which so hands out nothing of itself
        Ledger newLedger = new Ledger();
        int[] newSettings = {1, 9, 20, 2, 9, 3};
        Drops newDrops = new Drops(newLedger);
        Ways newWays = new Ways(newLedger, newDrops, newSettings);
        Ledger[] newMarked = new Ledger[MOST_MARKS];
        for (int i = 0; i < MOST_MARKS; i++) {
            newMarked[i] = new Ledger();
        }
        ledger = newLedger;
        marked = newMarked;
        settings = newSettings;
        sketch = new Sketch();
        ways = newWays;
        tolls = new Tolls(newLedger, newDrops, newSettings);
        chamber = new Chamber();
        probe = new Probe();
        cleaner = new Cleaner(newLedger, newSettings);
        neighbours = new Neighbours(newLedger, newWays);
        chances = new Chances();
    }

    // ---- the head, the passes, the settings ----

    public int lean(int hole, int v) throws IndexOutOfBoundsException, IllegalArgumentException {
        needHole(hole);
        needWithin(v, -2, 2);
        if (ledger.closed[hole] != 0) {
            return -3;
        }
        int was = ledger.leans[hole];
        ledger.leans[hole] = v;
        ways.forgetHead();
        return was;
    }

    public boolean shut(int hole, boolean is) throws IndexOutOfBoundsException {
        needHole(hole);
        boolean was = ledger.closed[hole] != 0;
        ledger.closed[hole] = is ? 1 : 0;
        ways.forgetHead();
        return was;
    }

    public int pass(int offset) throws IllegalArgumentException {
        needWithin(offset, -24, 24);
        int number = ledger.passes;
        if (number >= MOST_PASSES) {
            return -1;
        }
        ledger.offsets[number] = offset;
        ledger.passes = number + 1;
        ways.forgetHead();
        return number;
    }

    public int clear() {
        int were = ledger.passes;
        ledger.passes = 0;
        ways.forgetHead();
        return were;
    }

    public int set(int what, int v) throws IllegalArgumentException {
        needWithin(what, REACH, PRICE);
        needWithin(v, LEAST_SETTING[what], MOST_SETTING[what]);
        int was = settings[what];
        settings[what] = v;
        if (what == REACH || what == MISS) {
            ways.forgetAll();
        }
        return was;
    }

    // ---- pictures ----

    public int feed(int a, int b, int c, int d, int e) {
        if (!sketch.hasRoom()) {
            return NONE;
        }
        sketch.take(a);
        sketch.take(b);
        sketch.take(c);
        sketch.take(d);
        sketch.take(e);
        return sketch.fed;
    }

    public int picture(int n) throws IllegalArgumentException {
        needWithin(n, 0, sketch.fed);
        sketch.read(n);
        if (sketch.kind != 0) {
            return sketch.kind - 10;
        }
        System.arraycopy(sketch.cells, 0, ledger.wishes, 0, CELLS);
        ways.forgetAll();
        return ledger.allWishes();
    }

    public int fault() {
        return sketch.place;
    }

    public int wished(int cell) throws IndexOutOfBoundsException {
        needCell(cell);
        return ledger.wishes[cell];
    }

    public int wish(int cell, int v) throws IndexOutOfBoundsException, IllegalArgumentException {
        needCell(cell);
        needWithin(v, 0, 3);
        int was = ledger.wishes[cell];
        ledger.wishes[cell] = v;
        ways.forgetColumn(cell % COLUMNS);
        return was;
    }

    // ---- dealing ----

    public int cost(int column) throws IndexOutOfBoundsException {
        needColumnOrNone(column);
        return overColumns(column, Ways.COST);
    }

    public int given(int column, int pass, int hole) throws IndexOutOfBoundsException, NoSuchElementException {
        needColumn(column);
        needHole(hole);
        needPass(pass);
        ways.deal(column);
        return ways.unitRow(column, pass, hole);
    }

    public int way(int column, int what) throws IndexOutOfBoundsException, IllegalArgumentException {
        needColumnOrNone(column);
        needWithin(what, Ways.GIVEN, Ways.CAN_BE_THROWN);
        return overColumns(column, what);
    }

    private int overColumns(int column, int what) {
        if (column != NONE) {
            ways.deal(column);
            return ways.number(column, what);
        }
        int sum = 0;
        for (int c = 0; c < COLUMNS; c++) {
            ways.deal(c);
            sum += ways.number(c, what);
        }
        return sum;
    }

    // ---- printing and ink ----

    public int fill(int drops) throws IllegalArgumentException, IllegalStateException {
        needWithin(drops, 0, MOST_FILLED);
        if (ledger.inks[TANK] + drops > MOST_TANK) {
            throw new IllegalStateException("the TANK would have more than it holds");
        }
        ledger.inks[FILLED] += drops;
        ledger.inks[TANK] += drops;
        return ledger.inks[TANK];
    }

    public int print() {
        if (ledger.inks[TANK] < overColumns(NONE, Ways.GIVEN)) {
            return -1;
        }
        Arrays.fill(ledger.spots, 0);
        int lie = 0;
        for (int pass = 0; pass < ledger.passes; pass++) {
            for (int column = 0; column < COLUMNS; column++) {
                lie += printHoles(pass, column);
            }
        }
        prints++;
        return lie;
    }

    private int printHoles(int pass, int column) {
        int lie = 0;
        for (int hole = 0; hole < HOLES; hole++) {
            if (ways.unitRow(column, pass, hole) == NONE) {
                ledger.waitMore(hole);
            } else if (throwDrop(pass, column, hole)) {
                lie++;
            }
        }
        return lie;
    }

    /** Whether the DROP lies (else it is LOST). */
    private boolean throwDrop(int pass, int column, int hole) {
        boolean dried = ledger.waits[hole] > settings[DRIES];
        ledger.waits[hole] = 0;
        int row = ledger.landing(pass, hole);
        if (dried || row == NONE) {
            ledger.move(TANK, SPILT, 1);
            return false;
        }
        ledger.move(TANK, ON_PAPER, 1);
        ledger.spots[row * COLUMNS + column]++;
        return true;
    }

    public int dots(int cell) throws IndexOutOfBoundsException {
        needCell(cell);
        return ledger.spots[cell];
    }

    public int wrong() {
        int many = 0;
        for (int cell = 0; cell < CELLS; cell++) {
            if (ledger.spots[cell] != ledger.wishes[cell]) {
                many++;
            }
        }
        return many;
    }

    public int waited(int hole) throws IndexOutOfBoundsException {
        needHole(hole);
        return ledger.waits[hole];
    }

    public int spit() {
        int many = HOLES - ledger.allClosed();
        if (ledger.inks[TANK] < many) {
            return -1;
        }
        for (int hole = 0; hole < HOLES; hole++) {
            if (ledger.closed[hole] == 0) {
                ledger.waits[hole] = 0;
            }
        }
        ledger.move(TANK, SPILT, many);
        return many;
    }

    public int ink(int what) throws IllegalArgumentException {
        needWithin(what, FILLED, CLEANED);
        return ledger.inks[what];
    }

    // ---- the chamber ----

    public void tones(int p, int q) throws IllegalArgumentException {
        needWithin(p, -2, 2);
        if (q != -1 && q != 1) {
            throw new IllegalArgumentException("no such tone Q");
        }
        chamber.tune(p, q);
    }

    public int swing(int row, int ticks, int h, int what) throws IllegalArgumentException {
        needTicks(ticks, h);
        needWithin(what, Chamber.SPEED, Chamber.WORK);
        if (!Chamber.isRow(row, ticks)) {
            throw new IllegalArgumentException("no such row of VOLTS");
        }
        return chamber.outcome(row, ticks, h, what);
    }

    public int push(int ticks, int h, int speed, int what) throws IllegalArgumentException {
        needTicks(ticks, h);
        needWithin(speed, -MOST_SPEED, MOST_SPEED);
        if (what != 10 && what != 11) {
            needWithin(what, 0, Chamber.MOST_TICKS - 1);
        }
        chamber.seek(ticks, h, speed);
        if (!chamber.found() || (what < 10 && what >= ticks)) {
            return -3;
        }
        if (what == 10) {
            return chamber.leastLeft();
        }
        return what == 11 ? chamber.leastWork() : chamber.volts(what);
    }

    // ---- test prints ----

    public int search(int n, int d) throws IllegalArgumentException {
        needWithin(n, 2, Probe.MOST_TRIED);
        needWithin(d, 0, 2);
        probe.begin(n, d);
        return probe.allLeft();
    }

    public int test(int first, int last, boolean broken) throws IllegalStateException, IllegalArgumentException {
        needSearch();
        needWithin(last, 0, probe.tried - 1);
        needWithin(first, 0, last);
        if (probe.told >= Probe.MOST_TOLD) {
            return -1;
        }
        probe.tell(first, last, broken);
        return probe.allLeft();
    }

    public int dead(int hole) throws IllegalStateException, IllegalArgumentException {
        needSearch();
        needWithin(hole, NONE, probe.tried - 1);
        return hole == NONE ? probe.allLeft() : probe.leftWith(hole);
    }

    public int fewest() throws IllegalStateException {
        needSearch();
        probe.reckon();
        return probe.needed;
    }

    public int next() throws IllegalStateException {
        needSearch();
        probe.reckon();
        return probe.opening;
    }

    // ---- cleaning ----

    public int bad(int day, int many) throws IllegalArgumentException {
        needWithin(day, 0, DAYS - 1);
        needWithin(many, 0, 8);
        int were = ledger.fresh[day];
        ledger.fresh[day] = many;
        return were;
    }

    public int plan(int n, int what) throws IllegalArgumentException {
        needWithin(n, 1, DAYS);
        needWithin(what, -2, DAYS - 1);
        if (what >= n) {
            return NONE;
        }
        cleaner.lay(n);
        if (what == -1) {
            return cleaner.leastCost();
        }
        return what == -2 ? cleaner.inkOf(n) : cleaner.doneOn(what, n);
    }

    public int clean(int n) throws IllegalArgumentException {
        needWithin(n, 1, DAYS);
        cleaner.lay(n);
        int amount = cleaner.inkOf(n);
        if (ledger.inks[TANK] < amount) {
            return -1;
        }
        ledger.move(TANK, CLEANED, amount);
        return amount;
    }

    // ---- neighbours ----

    public int share(int away, int v) throws IllegalArgumentException {
        needWithin(away, 1, Neighbours.FARTHEST);
        needWithin(v, 0, 100);
        int was = neighbours.shares[away];
        neighbours.shares[away] = v;
        neighbours.forgetBest();
        return was;
    }

    public int limit(int v) throws IllegalArgumentException {
        needWithin(v, 0, 100);
        int was = neighbours.least;
        neighbours.least = v;
        neighbours.forgetBest();
        return was;
    }

    public int phase(int hole, int v) throws IndexOutOfBoundsException, IllegalArgumentException {
        needHole(hole);
        needWithin(v, 0, 2);
        int was = ledger.beats[hole];
        ledger.beats[hole] = v;
        return was;
    }

    public int pace(int column, int pass, int hole) throws IndexOutOfBoundsException, NoSuchElementException {
        needColumn(column);
        needHole(hole);
        needPass(pass);
        ways.deal(column);
        neighbours.lookAt(column, pass);
        return neighbours.there[hole] == 0 ? NONE : neighbours.speed(hole);
    }

    public int slow(int column, int pass) throws IndexOutOfBoundsException, NoSuchElementException {
        needColumn(column);
        needPass(pass);
        ways.deal(column);
        neighbours.lookAt(column, pass);
        return neighbours.tooSlow();
    }

    public int worst(int hole) throws IndexOutOfBoundsException {
        needHole(hole);
        neighbours.lookAtOpen();
        return neighbours.speed(hole);
    }

    public int phases(int column, int pass, int what)
            throws IndexOutOfBoundsException, NoSuchElementException, IllegalArgumentException {
        needColumn(column);
        needPass(pass);
        needWithin(what, -2, HOLES - 1);
        ways.deal(column);
        if (what >= 0 && ways.unitRow(column, pass, what) == NONE) {
            return -3;
        }
        neighbours.arrange(column, pass);
        if (what == -1) {
            return neighbours.bestSlow();
        }
        return what == -2 ? neighbours.bestSum() : neighbours.bestBeat(what);
    }

    // ---- states and their odds ----

    public int goes(int from, int to, int v) throws IllegalArgumentException {
        needState(from);
        needState(to);
        needWithin(v, 0, 100);
        if (from == to) {
            throw new IllegalArgumentException("the STATES are one");
        }
        return chances.turn(from, to, v);
    }

    public int odds(int from, int to, int seconds, int k) throws IllegalArgumentException {
        needState(from);
        needState(to);
        needSeconds(seconds);
        if (k < 0 || k > 2 * seconds) {
            return NONE;
        }
        chances.run(from, seconds);
        return chances.digit(to, k);
    }

    public int likely(int from, int seconds) throws IllegalArgumentException {
        needState(from);
        needSeconds(seconds);
        chances.run(from, seconds);
        return chances.greatest();
    }

    public int below(int from, int to, int hundredths) throws IllegalArgumentException {
        needState(from);
        needState(to);
        needWithin(hundredths, 0, 100);
        return chances.firstBelow(from, to, hundredths);
    }

    // ---- tolls ----

    public int toll(int row, int v) throws IndexOutOfBoundsException, IllegalArgumentException {
        needRow(row);
        needWithin(v, 0, MOST_TOLL);
        int was = ledger.tolls[row];
        ledger.tolls[row] = v;
        return was;
    }

    public int bound(int column) throws IndexOutOfBoundsException {
        needColumn(column);
        return tolls.reckon(column);
    }

    public boolean proved(int column) throws IndexOutOfBoundsException {
        needColumn(column);
        ways.deal(column);
        return tolls.reckon(column) == ways.number(column, Ways.COST);
    }

    public int climb(int column) throws IndexOutOfBoundsException {
        needColumn(column);
        tolls.raise(column);
        return tolls.reckon(column);
    }

    // ---- what an eye sees, the digest, marks, counts ----

    public int seen(int row) throws IndexOutOfBoundsException {
        needRow(row);
        return ledger.glimpse(row);
    }

    public int stripe() {
        int first = 0;
        int most = NONE;
        for (int row = 0; row < ROWS; row++) {
            int amount = Math.abs(ledger.glimpse(row));
            if (amount > most) {
                most = amount;
                first = row;
            }
        }
        return first;
    }

    public int digest() {
        return ledger.hash();
    }

    public int mark() {
        if (marks >= MOST_MARKS) {
            return -1;
        }
        marked[marks].become(ledger);
        marks++;
        return marks;
    }

    public int back() {
        if (marks <= 0) {
            return -1;
        }
        marks--;
        ledger.become(marked[marks]);
        ways.forgetHead();
        return marks;
    }

    public int count(int what) {
        switch (what) {
            case 0:
                return ledger.passes;
            case 1:
                return ledger.allWishes();
            case 2:
                return prints;
            case 3:
                return probe.told;
            case 4:
                return sketch.fed;
            case 5:
                return ledger.allClosed();
            case 6:
                return marks;
            default:
                return NONE;
        }
    }

    // ---- what every call looks at first ----

    private static void needWithin(int v, int least, int most) {
        if (v < least || v > most) {
            throw new IllegalArgumentException("it is none such");
        }
    }

    private static void needHole(int hole) {
        if (hole < 0 || hole >= HOLES) {
            throw new IndexOutOfBoundsException("no such HOLE");
        }
    }

    private static void needCell(int cell) {
        if (cell < 0 || cell >= CELLS) {
            throw new IndexOutOfBoundsException("no such CELL");
        }
    }

    private static void needRow(int row) {
        if (row < 0 || row >= ROWS) {
            throw new IndexOutOfBoundsException("no such ROW");
        }
    }

    private static void needColumn(int column) {
        if (column < 0 || column >= COLUMNS) {
            throw new IndexOutOfBoundsException("no such COLUMN");
        }
    }

    private static void needColumnOrNone(int column) {
        if (column != NONE) {
            needColumn(column);
        }
    }

    private void needPass(int pass) {
        if (pass < 0 || pass >= ledger.passes) {
            throw new NoSuchElementException("no such PASS");
        }
    }

    private static void needTicks(int ticks, int h) {
        needWithin(ticks, 1, Chamber.MOST_TICKS);
        needWithin(h, 1, ticks);
    }

    private void needSearch() {
        if (!probe.begun) {
            throw new IllegalStateException("there was no search()");
        }
    }

    private static void needState(int state) {
        needWithin(state, 0, Chances.STATES - 1);
    }

    private static void needSeconds(int seconds) {
        needWithin(seconds, 0, Chances.MOST_SECONDS);
    }

    /** All numbers that the DIGEST has, so that a MARK is one copy of them. */
    private static final class Ledger {
        final int[] leans = new int[HOLES];
        /** 1 for a HOLE that is SHUT. */
        final int[] closed = new int[HOLES];
        final int[] waits = new int[HOLES];
        /** The PHASES. */
        final int[] beats = new int[HOLES];
        final int[] offsets = new int[MOST_PASSES];
        int passes = 0;
        final int[] wishes = new int[CELLS];
        /** The DOTS. */
        final int[] spots = new int[CELLS];
        final int[] inks = new int[INKS];
        final int[] tolls = new int[ROWS];
        /** NEW by DAYS. */
        final int[] fresh = new int[DAYS];

        void become(Ledger other) {
            System.arraycopy(other.leans, 0, leans, 0, HOLES);
            System.arraycopy(other.closed, 0, closed, 0, HOLES);
            System.arraycopy(other.waits, 0, waits, 0, HOLES);
            System.arraycopy(other.beats, 0, beats, 0, HOLES);
            System.arraycopy(other.offsets, 0, offsets, 0, MOST_PASSES);
            passes = other.passes;
            System.arraycopy(other.wishes, 0, wishes, 0, CELLS);
            System.arraycopy(other.spots, 0, spots, 0, CELLS);
            System.arraycopy(other.inks, 0, inks, 0, INKS);
            System.arraycopy(other.tolls, 0, tolls, 0, ROWS);
            System.arraycopy(other.fresh, 0, fresh, 0, DAYS);
        }

        int hash() {
            int h = 17;
            for (int hole = 0; hole < HOLES; hole++) {
                h = 31 * h + leans[hole];
                h = 31 * h + closed[hole];
                h = 31 * h + waits[hole];
                h = 31 * h + beats[hole];
            }
            h = hashRow(h, offsets, passes);
            for (int cell = 0; cell < CELLS; cell++) {
                h = 31 * h + wishes[cell];
                h = 31 * h + spots[cell];
            }
            h = hashRow(h, inks, INKS);
            h = hashRow(h, tolls, ROWS);
            return hashRow(h, fresh, DAYS);
        }

        private static int hashRow(int start, int[] row, int many) {
            int h = start;
            for (int i = 0; i < many && i < row.length; i++) {
                h = 31 * h + row[i];
            }
            return h;
        }

        /** The ROW in which a DROP falls; NONE if it can't be thrown. */
        int landing(int pass, int hole) {
            if (closed[hole] != 0) {
                return NONE;
            }
            int row = hole + offsets[pass] + leans[hole];
            return row >= 0 && row < ROWS ? row : NONE;
        }

        void waitMore(int hole) {
            if (waits[hole] < MOST_WAITED) {
                waits[hole]++;
            }
        }

        void move(int from, int to, int amount) {
            inks[from] -= amount;
            inks[to] += amount;
        }

        int allWishes() {
            int sum = 0;
            for (int cell = 0; cell < CELLS; cell++) {
                sum += wishes[cell];
            }
            return sum;
        }

        int allClosed() {
            int sum = 0;
            for (int hole = 0; hole < HOLES; hole++) {
                sum += closed[hole];
            }
            return sum;
        }

        /** DARK of a ROW; 0 where there is no such ROW. */
        private int dark(int row) {
            if (row < 0 || row >= ROWS) {
                return 0;
            }
            int sum = 0;
            for (int column = 0; column < COLUMNS; column++) {
                int cell = row * COLUMNS + column;
                sum += spots[cell] - wishes[cell];
            }
            return sum;
        }

        /** SEEN in a ROW. */
        int glimpse(int row) {
            return 4 * dark(row) + 2 * (dark(row - 1) + dark(row + 1)) + dark(row - 2) + dark(row + 2);
        }
    }

    /** The TAPE, and the reader that makes CELLS of a text or tells its first FAULT. */
    private static final class Sketch {
        private static final int MOST_BYTES = 300;
        private static final int FED_AT_ONCE = 20;
        private static final int DEEPEST = 4;
        private static final int MOST_TIMES = 16;
        /** One more than a ROW has: a ROW that is too long stays at this width. */
        private static final int TOO_WIDE = COLUMNS + 1;

        private final int[] tape = new int[MOST_BYTES];
        int fed = 0;
        final int[] cells = new int[CELLS];
        /** 1 to 4 for a FAULT, 0 without. */
        int kind = 0;
        int place = NONE;
        private int end = 0;
        private int at = 0;
        private final int[] line = new int[TOO_WIDE];
        private int width = 0;

        boolean hasRoom() {
            return fed + FED_AT_ONCE <= MOST_BYTES;
        }

        void take(int number) {
            for (int shift = 24; shift >= 0 && fed < MOST_BYTES; shift -= 8) {
                tape[fed] = (number >>> shift) & 255;
                fed++;
            }
        }

        /** Reads the first n bytes; the TAPE is empty then. */
        void read(int n) {
            end = Math.max(0, Math.min(n, fed));
            fed = 0;
            at = 0;
            kind = 0;
            place = NONE;
            Arrays.fill(cells, 0);
            boolean more = true;
            for (int row = 0; row < ROWS && more; row++) {
                readRow(row);
                more = kind == 0 && passSlash(row);
            }
        }

        /** Whether another ROW follows. */
        private boolean passSlash(int row) {
            if (at >= end) {
                return false;
            }
            if (tape[at] != '/') {
                blame(1, at);
                return false;
            }
            if (row == ROWS - 1) {
                blame(3, at);
                return false;
            }
            at++;
            return true;
        }

        private void readRow(int row) {
            if (row > 0 && isNow('=')) {
                at++;
                System.arraycopy(cells, (row - 1) * COLUMNS, cells, row * COLUMNS, COLUMNS);
                return;
            }
            width = 0;
            // an ITEM takes a byte at least, so the bytes bound the ITEMS
            for (int guard = 0; guard < MOST_BYTES && at < end && tape[at] != '/'; guard++) {
                int start = at;
                readItem(0);
                if (kind == 0 && width > COLUMNS) {
                    blame(4, start);
                }
                if (kind != 0) {
                    return;
                }
            }
            System.arraycopy(line, 0, cells, row * COLUMNS, Math.min(width, COLUMNS));
        }

        private void readItem(int depth) {
            int times = readTimes();
            if (kind != 0) {
                return;
            }
            int from = width;
            if (isNow('(')) {
                readGroup(depth);
            } else {
                readSign();
            }
            if (kind == 0) {
                repeat(from, times);
            }
        }

        private void readSign() {
            int drops = at < end ? dropsOf(tape[at]) : NONE;
            if (drops == NONE) {
                blame(1, at);
                return;
            }
            at++;
            put(drops);
        }

        private static int dropsOf(int sign) {
            if (sign == '.') {
                return 0;
            }
            return sign >= 'a' && sign <= 'c' ? sign - 'a' + 1 : NONE;
        }

        private void readGroup(int depth) {
            if (depth >= DEEPEST) {
                blame(3, at);
                return;
            }
            at++;
            int from = width;
            for (int guard = 0; guard < MOST_BYTES && at < end && tape[at] != ')'; guard++) {
                readItem(depth + 1);
                if (kind != 0) {
                    return;
                }
            }
            if (at >= end) {
                blame(1, end);
                return;
            }
            at++;
            if (isNow('!')) {
                at++;
                for (int i = width - 1; i >= from; i--) {
                    put(line[i]);
                }
            }
        }

        /** N; 1 without. */
        private int readTimes() {
            int start = at;
            int times = 0;
            while (at < end && tape[at] >= '0' && tape[at] <= '9') {
                // beyond the most it does not matter how far
                times = Math.min(10 * times + tape[at] - '0', MOST_TIMES + 1);
                at++;
            }
            if (at == start) {
                return 1;
            }
            if (times < 1 || times > MOST_TIMES) {
                blame(2, start);
            }
            return times;
        }

        private void repeat(int from, int times) {
            int columns = width - from;
            for (int again = 1; again < times; again++) {
                for (int i = 0; i < columns; i++) {
                    put(line[from + i]);
                }
            }
        }

        private void put(int drops) {
            if (width < TOO_WIDE) {
                line[width] = drops;
                width++;
            }
        }

        private boolean isNow(char sign) {
            return at < end && tape[at] == sign;
        }

        private void blame(int fault, int where) {
            kind = fault;
            place = where;
        }
    }

    /** All DROPS that can be thrown in a COLUMN (in each the same), in their order. */
    private static final class Drops {
        private final Ledger ledger;
        /** The ROW in which each falls. */
        final int[] rows = new int[MOST_DROPS];
        /** HOLES times its PASS, and its HOLE. */
        final int[] throwers = new int[MOST_DROPS];
        /** How many fall in each ROW. */
        final int[] falls = new int[ROWS];
        private final int[] slots = new int[ROWS];
        int many = 0;
        private boolean listed = false;

        Drops(Ledger ledger) {
            this.ledger = ledger;
        }

        void forget() {
            listed = false;
        }

        /** Lists them anew after a change. */
        void list() {
            if (listed) {
                return;
            }
            listed = true;
            countFalls();
            for (int pass = 0; pass < ledger.passes; pass++) {
                for (int hole = 0; hole < HOLES; hole++) {
                    int row = ledger.landing(pass, hole);
                    if (row != NONE) {
                        int slot = slots[row];
                        slots[row] = slot + 1;
                        rows[slot] = row;
                        throwers[slot] = pass * HOLES + hole;
                    }
                }
            }
        }

        private void countFalls() {
            Arrays.fill(falls, 0);
            for (int pass = 0; pass < ledger.passes; pass++) {
                for (int hole = 0; hole < HOLES; hole++) {
                    int row = ledger.landing(pass, hole);
                    if (row != NONE) {
                        falls[row]++;
                    }
                }
            }
            many = 0;
            for (int row = 0; row < ROWS; row++) {
                slots[row] = many;
                many += falls[row];
            }
        }
    }

    /**
     * The least costs of one COLUMN: least[drop, unit] is that of all DROPS from drop on with all UNITS from unit on.
     * Only the UNITS that a DROP reaches are kept: those ahead of them are MISSING, and no earlier DROP reaches beyond.
     */
    private static final class Matcher {
        /** Five ROWS of three UNITS, and the place behind them. */
        private static final int BAND = 16;

        private final Ledger ledger;
        private final Drops drops;
        private final int[] settings;
        /** The first UNIT of each ROW, and how many there are in all. */
        private final int[] starts = new int[ROWS + 1];
        private final int[] rows = new int[MOST_UNITS];
        /** The UNITS that a DROP reaches: from low to high, without high. */
        private final int[] low = new int[MOST_DROPS];
        private final int[] high = new int[MOST_DROPS];
        private final int[] least = new int[MOST_DROPS * BAND];
        private int all = 0;
        private int miss = 0;

        Matcher(Ledger ledger, Drops drops, int[] settings) {
            this.ledger = ledger;
            this.drops = drops;
            this.settings = settings;
        }

        /** Works out a COLUMN (the DROPS are listed): its least cost. */
        int work(int column) {
            all = drops.many;
            miss = settings[MISS];
            listUnits(column);
            for (int drop = all - 1; drop >= 0; drop--) {
                int row = drops.rows[drop];
                low[drop] = starts[Math.max(0, row - settings[REACH])];
                high[drop] = starts[Math.min(ROWS - 1, row + settings[REACH]) + 1];
                workDrop(drop);
            }
            return rest(0, 0);
        }

        private void listUnits(int column) {
            int unit = 0;
            for (int row = 0; row < ROWS; row++) {
                starts[row] = unit;
                int wished = ledger.wishes[row * COLUMNS + column];
                for (int i = 0; i < wished && unit < MOST_UNITS; i++) {
                    rows[unit] = row;
                    unit++;
                }
            }
            starts[ROWS] = unit;
        }

        private void workDrop(int drop) {
            int first = low[drop];
            for (int unit = high[drop]; unit >= first; unit--) {
                int best = rest(drop + 1, unit);
                if (unit < high[drop]) {
                    best = Math.min(best, giving(drop, unit));
                    best = Math.min(best, miss + rest(drop, unit + 1));
                }
                least[drop * BAND + unit - first] = best;
            }
        }

        /** The least cost if a DROP is given to a UNIT, of these and all behind them. */
        private int giving(int drop, int unit) {
            int away = drops.rows[drop] - rows[unit];
            return away * away + rest(drop + 1, unit + 1);
        }

        private int rest(int drop, int unit) {
            if (drop >= all) {
                return miss * (starts[ROWS] - unit);
            }
            int first = low[drop];
            if (unit < first) {
                return miss * (first - unit) + least[drop * BAND];
            }
            return least[drop * BAND + unit - first];
        }

        int units() {
            return starts[ROWS];
        }

        int rowOf(int unit) {
            return rows[unit];
        }

        /** The UNIT of a DROP in THE WAY, if the UNITS ahead of from are past; NONE for none. */
        int choose(int drop, int from) {
            int start = Math.max(from, low[drop]);
            int due = rest(drop, start);
            if (rest(drop + 1, start) == due) {
                return NONE;
            }
            for (int unit = start; unit < high[drop]; unit++) {
                if (miss * (unit - start) + giving(drop, unit) == due) {
                    return unit;
                }
            }
            return NONE;
        }
    }

    /** THE WAYS of all COLUMNS, each worked out when it is first asked for after a change. */
    private static final class Ways {
        /** What way() numbers, and the cost. */
        static final int GIVEN = 0;
        static final int HIDDEN = 1;
        static final int MISSING = 2;
        static final int CAN_BE_THROWN = 3;
        static final int COST = 4;
        private static final int NUMBERS = 5;

        private final Drops drops;
        private final Matcher matcher;
        private final boolean[] known = new boolean[COLUMNS];
        private final int[] numbers = new int[COLUMNS * NUMBERS];
        /** The ROW of the UNIT of each DROP, by COLUMN, PASS and HOLE. */
        private final int[] unitRows = new int[COLUMNS * MOST_DROPS];
        /** Goes up with every change. */
        int changes = 0;

        Ways(Ledger ledger, Drops drops, int[] settings) {
            this.drops = drops;
            this.matcher = new Matcher(ledger, drops, settings);
        }

        void forgetHead() {
            drops.forget();
            forgetAll();
        }

        void forgetAll() {
            for (int column = 0; column < COLUMNS; column++) {
                known[column] = false;
            }
            changes++;
        }

        void forgetColumn(int column) {
            known[column] = false;
            changes++;
        }

        int number(int column, int what) {
            return numbers[column * NUMBERS + what];
        }

        int unitRow(int column, int pass, int hole) {
            return unitRows[column * MOST_DROPS + pass * HOLES + hole];
        }

        /** Makes the numbers of a COLUMN right: whoever asks for them deals first. */
        void deal(int column) {
            if (known[column]) {
                return;
            }
            known[column] = true;
            drops.list();
            int start = column * MOST_DROPS;
            for (int i = 0; i < MOST_DROPS; i++) {
                unitRows[start + i] = NONE;
            }
            int cost = matcher.work(column);
            int all = drops.many;
            int given = 0;
            int hidden = 0;
            int from = 0;
            for (int drop = 0; drop < all; drop++) {
                int unit = matcher.choose(drop, from);
                if (unit != NONE) {
                    int row = matcher.rowOf(unit);
                    unitRows[start + drops.throwers[drop]] = row;
                    given++;
                    hidden += row != drops.rows[drop] ? 1 : 0;
                    from = unit + 1;
                }
            }
            int place = column * NUMBERS;
            numbers[place + GIVEN] = given;
            numbers[place + HIDDEN] = hidden;
            numbers[place + MISSING] = matcher.units() - given;
            numbers[place + CAN_BE_THROWN] = all;
            numbers[place + COST] = cost;
        }
    }

    /** BOUNDS, and TOLLS that CLIMB. */
    private static final class Tolls {
        private static final int MOST_ROUNDS = 10;
        /** The ROWS that reach one: two on either side at most. */
        private static final int MOST_NEAR = 5;

        private final Ledger ledger;
        private final Drops drops;
        private final int[] settings;
        /** The TOLL of a ROW from which on the DROPS of each ROW near it take of it. */
        private final int[] likings = new int[MOST_NEAR];

        Tolls(Ledger ledger, Drops drops, int[] settings) {
            this.ledger = ledger;
            this.drops = drops;
            this.settings = settings;
        }

        /** BOUND of a COLUMN. */
        int reckon(int column) {
            drops.list();
            int sum = 0;
            for (int row = 0; row < ROWS; row++) {
                sum += unitsIn(row, column) * worth(row);
                if (drops.falls[row] > 0) {
                    sum -= drops.falls[row] * gain(row, column, NONE);
                }
            }
            return sum;
        }

        void raise(int column) {
            drops.list();
            boolean changed = true;
            for (int round = 0; round < MOST_ROUNDS && changed; round++) {
                changed = false;
                for (int row = 0; row < ROWS; row++) {
                    int best = bestToll(row, column);
                    changed = changed || ledger.tolls[row] != best;
                    ledger.tolls[row] = best;
                }
            }
        }

        /**
         * A TOLL that goes up by 1 adds 1 for each UNIT of its ROW, and takes off 1 for each DROP that likes this ROW as
         * well as any other: there are ever more of these, so the first TOLL with as many DROPS as UNITS is the best.
         */
        private int bestToll(int row, int column) {
            int units = unitsIn(row, column);
            if (units == 0) {
                return 0;
            }
            int from = Math.max(0, row - settings[REACH]);
            int to = Math.min(ROWS - 1, row + settings[REACH]);
            for (int fallen = from; fallen <= to; fallen++) {
                likings[fallen - from] = gain(fallen, column, row) + (row - fallen) * (row - fallen);
            }
            // a TOLL above MISS is worth no more than MISS
            for (int v = 0; v < settings[MISS]; v++) {
                int taking = 0;
                for (int fallen = from; fallen <= to; fallen++) {
                    taking += likings[fallen - from] <= v ? drops.falls[fallen] : 0;
                }
                if (taking >= units) {
                    return v;
                }
            }
            return settings[MISS];
        }

        /** What a DROP takes off the BOUND by where it has fallen, one ROW left out (NONE: none is). */
        private int gain(int fallen, int column, int without) {
            int from = Math.max(0, fallen - settings[REACH]);
            int to = Math.min(ROWS - 1, fallen + settings[REACH]);
            int most = 0;
            for (int row = from; row <= to; row++) {
                if (row != without && unitsIn(row, column) > 0) {
                    most = Math.max(most, worth(row) - (row - fallen) * (row - fallen));
                }
            }
            return most;
        }

        private int worth(int row) {
            return Math.min(ledger.tolls[row], settings[MISS]);
        }

        private int unitsIn(int row, int column) {
            return ledger.wishes[row * COLUMNS + column];
        }
    }

    /** The CHAMBER and its BEST PUSH. */
    private static final class Chamber {
        static final int MOST_TICKS = 7;
        static final int SPEED = 0;
        static final int LEFT = 1;
        static final int WORK = 2;
        private static final int MOST_VOLTS = 2;
        /** A push as one number, of which the least is the best: LEFT, WORK (four bits), then three bits a TICK. */
        private static final int ROW_BITS = 3 * MOST_TICKS;
        private static final int WORK_BITS = 4;
        private static final long NO_PUSH = 1L << 62;

        private int p = 1;
        private int q = 1;
        /** What was sought latest; 0 TICKS: nothing. */
        private int ticks = 0;
        private int h = 0;
        private int speed = 0;
        private long best = NO_PUSH;

        void tune(int newP, int newQ) {
            p = newP;
            q = newQ;
            ticks = 0;
        }

        static boolean isRow(int row, int ticks) {
            if (row >>> (3 * ticks) != 0) {
                return false;
            }
            for (int tick = 0; tick < ticks; tick++) {
                if (voltsIn(row, tick) > MOST_VOLTS) {
                    return false;
                }
            }
            return true;
        }

        private static int voltsIn(int row, int tick) {
            return ((row >>> (3 * tick)) & 7) - MOST_VOLTS;
        }

        private int pushed(int x, int y, int u) {
            return p * y - q * x + u;
        }

        int outcome(int row, int many, int hit, int what) {
            int x = 0;
            int y = 0;
            int thrown = 0;
            int work = 0;
            for (int tick = 0; tick < many; tick++) {
                int u = voltsIn(row, tick);
                int then = pushed(x, y, u);
                x = y;
                y = then;
                work += Math.abs(u);
                thrown = tick + 1 == hit ? x : thrown;
            }
            if (what == SPEED) {
                return thrown;
            }
            return what == LEFT ? Math.abs(x) + Math.abs(y) : work;
        }

        void seek(int newTicks, int newH, int newSpeed) {
            if (ticks == newTicks && h == newH && speed == newSpeed) {
                return;
            }
            ticks = newTicks;
            h = newH;
            speed = newSpeed;
            best = NO_PUSH;
            tryTick(1, 0, 0, 0, 0);
        }

        /** Tries all VOLTS of a TICK, from the state that the TICKS ahead of it left. */
        private void tryTick(int tick, int x, int y, int work, int row) {
            // x behind this TICK is y
            if (tick > ticks || (tick == h && y != speed)) {
                return;
            }
            if (tick == ticks) {
                tryLast(x, y, work, row);
                return;
            }
            for (int u = -MOST_VOLTS; u <= MOST_VOLTS; u++) {
                tryTick(tick + 1, y, pushed(x, y, u), work + Math.abs(u), row * 8 + u + MOST_VOLTS);
            }
        }

        /** At the last TICK the VOLTS that leave the least y are the only ones that can be best. */
        private void tryLast(int x, int y, int work, int row) {
            int u = Math.max(-MOST_VOLTS, Math.min(MOST_VOLTS, -pushed(x, y, 0)));
            long left = Math.abs(y) + Math.abs(pushed(x, y, u));
            long all = (left << WORK_BITS) + work + Math.abs(u);
            all = (all << ROW_BITS) + row * 8 + u + MOST_VOLTS;
            best = Math.min(best, all);
        }

        boolean found() {
            return best != NO_PUSH;
        }

        int leastLeft() {
            return (int) (best >>> (ROW_BITS + WORK_BITS));
        }

        int leastWork() {
            return (int) (best >>> ROW_BITS) & ((1 << WORK_BITS) - 1);
        }

        int volts(int tick) {
            int shift = 3 * (ticks - 1 - tick);
            return shift < 0 ? 0 : (int) ((best >>> shift) & 7) - MOST_VOLTS;
        }
    }

    /** TEST PRINTS: the sets of DEAD HOLES that are left are the bits of one number. */
    private static final class Probe {
        static final int MOST_TRIED = 8;
        static final int MOST_TOLD = 20;
        private static final int MOST_NEEDED = 5;
        /** No HOLE, one of eight, two of eight. */
        private static final int MOST_SETS = 37;

        boolean begun = false;
        int tried = 0;
        int told = 0;
        /** FEWEST and NEXT, once they are reckoned. */
        int needed = NONE;
        int opening = NONE;
        private boolean reckoned = false;
        /** The HOLES of each set as bits. */
        private final int[] sets = new int[MOST_SETS];
        private int all = 0;
        private long left = 0;
        /** Each RUN by first and last HOLE: its number, and the sets by which it is seen broken. */
        private final int[] runs = new int[MOST_TRIED * (MOST_TRIED + 1) / 2];
        private final long[] breaks = new long[MOST_TRIED * (MOST_TRIED + 1) / 2];
        private int allRuns = 0;

        void begin(int n, int d) {
            begun = true;
            tried = n;
            told = 0;
            reckoned = false;
            all = 0;
            for (int set = 0; set < 1 << n; set++) {
                if (Integer.bitCount(set) <= d && all < MOST_SETS) {
                    sets[all] = set;
                    all++;
                }
            }
            left = (1L << all) - 1;
            allRuns = 0;
            for (int first = 0; first < n; first++) {
                for (int last = first; last < n && allRuns < runs.length; last++) {
                    runs[allRuns] = MOST_TRIED * first + last;
                    breaks[allRuns] = brokenBy(first, last);
                    allRuns++;
                }
            }
        }

        /** The sets with a HOLE of a RUN. */
        private long brokenBy(int first, int last) {
            int run = (1 << (last + 1)) - (1 << first);
            long broken = 0;
            for (int i = 0; i < all; i++) {
                if ((sets[i] & run) != 0) {
                    broken |= 1L << i;
                }
            }
            return broken;
        }

        void tell(int first, int last, boolean broken) {
            long by = brokenBy(first, last);
            left &= broken ? by : ~by;
            told++;
            reckoned = false;
        }

        int allLeft() {
            return Long.bitCount(left);
        }

        int leftWith(int hole) {
            return Long.bitCount(left & brokenBy(hole, hole));
        }

        void reckon() {
            if (reckoned) {
                return;
            }
            reckoned = true;
            opening = NONE;
            needed = allLeft() == 1 ? 0 : NONE;
            if (allLeft() <= 1) {
                return;
            }
            for (int tests = 1; tests <= MOST_NEEDED; tests++) {
                int run = opener(left, tests);
                if (run != NONE) {
                    needed = tests;
                    opening = runs[run];
                    return;
                }
            }
        }

        /** The first RUN that begins a way by which so many TESTS tell these sets apart; NONE: there is none. */
        private int opener(long these, int tests) {
            int most = 1 << (tests - 1);
            if (Long.bitCount(these) > 2 * most) {
                return NONE;
            }
            for (int run = 0; run < allRuns; run++) {
                long broken = these & breaks[run];
                long whole = these & ~breaks[run];
                if (broken != 0 && whole != 0 && Long.bitCount(broken) <= most && Long.bitCount(whole) <= most
                        && canTell(broken, tests - 1) && canTell(whole, tests - 1)) {
                    return run;
                }
            }
            return NONE;
        }

        private boolean canTell(long these, int tests) {
            int many = Long.bitCount(these);
            // some RUN always parts two sets, so each TEST can bar one set at least
            if (many <= tests + 1) {
                return true;
            }
            return tests > 0 && opener(these, tests) != NONE;
        }
    }

    /** The PLAN of CLEANING. */
    private static final class Cleaner {
        private static final int MOST_BAD = 24;
        private static final int WAYS = 3;
        private static final int WIPE = 1;
        private static final int FLUSH = 2;
        /** A plan as one number, of which the least is the best: its cost, then two bits a DAY. */
        private static final int DAY_BITS = 2 * DAYS;
        private static final long NO_PLAN = 1L << 62;

        private final Ledger ledger;
        private final int[] settings;
        /** The best plan so far by how many are bad. */
        private final long[] now = new long[MOST_BAD + 1];
        private final long[] then = new long[MOST_BAD + 1];
        private long best = 0;

        Cleaner(Ledger ledger, int[] settings) {
            this.ledger = ledger;
            this.settings = settings;
        }

        void lay(int days) {
            Arrays.fill(now, NO_PLAN);
            now[0] = 0;
            for (int day = 0; day < days && day < DAYS; day++) {
                Arrays.fill(then, NO_PLAN);
                for (int bad = 0; bad <= MOST_BAD; bad++) {
                    if (now[bad] != NO_PLAN) {
                        tryDay(now[bad], Math.min(MOST_BAD, bad + ledger.fresh[day]), 2 * (days - 1 - day));
                    }
                }
                System.arraycopy(then, 0, now, 0, MOST_BAD + 1);
            }
            best = NO_PLAN;
            for (int bad = 0; bad <= MOST_BAD; bad++) {
                best = Math.min(best, now[bad]);
            }
        }

        private void tryDay(long soFar, int bad, int shift) {
            for (int way = 0; way < WAYS; way++) {
                int stay = staying(bad, way);
                long cost = inkFor(way) + settings[PRICE] * stay;
                long all = soFar + (cost << DAY_BITS) + ((long) way << shift);
                then[stay] = Math.min(then[stay], all);
            }
        }

        private static int staying(int bad, int way) {
            if (way == FLUSH) {
                return 0;
            }
            return way == WIPE ? Math.max(0, bad - 2) : bad;
        }

        private int inkFor(int way) {
            if (way == FLUSH) {
                return settings[FLUSH_INK];
            }
            return way == WIPE ? settings[WIPE_INK] : 0;
        }

        int leastCost() {
            return (int) (best >>> DAY_BITS);
        }

        int doneOn(int day, int days) {
            return (int) (best >>> (2 * (days - 1 - day))) & 3;
        }

        int inkOf(int days) {
            int sum = 0;
            for (int day = 0; day < days; day++) {
                sum += inkFor(doneOn(day, days));
            }
            return sum;
        }
    }

    /** How HOLES that throw TOGETHER slow one another, and the BEST PHASES. */
    private static final class Neighbours {
        static final int FARTHEST = 3;
        private static final int PHASES = 3;
        /** Two bits for each of three HOLES on either side. */
        private static final int MOST_STATES = 1 << (4 * FARTHEST);
        /** PHASES as one number, of which the least is the best: how many are SLOW, the sum, two bits a HOLE. */
        private static final int HOLE_BITS = 2 * HOLES;
        private static final int SUM_BITS = 6;
        private static final long NO_WAY = 1L << 62;

        private final Ledger ledger;
        private final Ways ways;
        /** By how many HOLES away; the first is not used. */
        final int[] shares = {0, 30, 10, 0};
        /** The LIMIT. */
        int least = 60;
        /** 1 for each HOLE that is looked at. */
        final int[] there = new int[HOLES];
        /** The best number so far by the PHASES of the latest HOLES. */
        private long[] now = new long[MOST_STATES];
        private long[] then = new long[MOST_STATES];
        /** Whether there is a HOLE to judge, and what those beside it can take of its PACE. */
        private boolean judged = false;
        private final int[] losses = new int[2 * FARTHEST + 1];
        private int bestColumn = NONE;
        private int bestPass = NONE;
        private int bestChanges = 0;
        private long best = 0;

        Neighbours(Ledger ledger, Ways ways) {
            this.ledger = ledger;
            this.ways = ways;
        }

        /** Looks at the HOLES whose DROPS are given in a PASS and COLUMN. */
        void lookAt(int column, int pass) {
            for (int hole = 0; hole < HOLES; hole++) {
                there[hole] = ways.unitRow(column, pass, hole) == NONE ? 0 : 1;
            }
        }

        /** Looks at all HOLES that are not SHUT. */
        void lookAtOpen() {
            for (int hole = 0; hole < HOLES; hole++) {
                there[hole] = 1 - ledger.closed[hole];
            }
        }

        private boolean isThere(int hole) {
            return hole >= 0 && hole < HOLES && there[hole] != 0;
        }

        /** PACE of a HOLE beside all others of its PHASE that are looked at. */
        int speed(int hole) {
            int speed = 100;
            for (int away = 1; away <= FARTHEST; away++) {
                speed -= isTogether(hole, hole - away) ? shares[away] : 0;
                speed -= isTogether(hole, hole + away) ? shares[away] : 0;
            }
            return Math.max(0, speed);
        }

        private boolean isTogether(int hole, int other) {
            return isThere(other) && ledger.beats[hole] == ledger.beats[other];
        }

        int tooSlow() {
            int many = 0;
            for (int hole = 0; hole < HOLES; hole++) {
                if (isThere(hole) && speed(hole) < least) {
                    many++;
                }
            }
            return many;
        }

        void forgetBest() {
            bestColumn = NONE;
        }

        /** Works out BEST PHASES, HOLE by HOLE: a HOLE is judged when all that may slow it have their PHASES. */
        void arrange(int column, int pass) {
            if (bestColumn == column && bestPass == pass && bestChanges == ways.changes) {
                return;
            }
            bestColumn = column;
            bestPass = pass;
            bestChanges = ways.changes;
            lookAt(column, pass);
            int far = farthestShare();
            int states = 1 << (4 * far);
            forgetStates(now, states);
            now[0] = 0;
            for (int hole = 0; hole < HOLES + far; hole++) {
                weigh(hole - far, far);
                forgetStates(then, states);
                for (int state = 0; state < states; state++) {
                    if (now[state] != NO_WAY) {
                        tryHole(hole, state, far);
                    }
                }
                long[] old = now;
                now = then;
                then = old;
            }
            best = NO_WAY;
            for (int state = 0; state < states; state++) {
                best = Math.min(best, now[state]);
            }
        }

        private static void forgetStates(long[] row, int states) {
            for (int state = 0; state < states && state < row.length; state++) {
                row[state] = NO_WAY;
            }
        }

        private int farthestShare() {
            for (int away = FARTHEST; away > 0; away--) {
                if (shares[away] > 0) {
                    return away;
                }
            }
            return 0;
        }

        /** Takes down what each HOLE beside one that is judged can take of its PACE, the latest first. */
        private void weigh(int hole, int far) {
            judged = isThere(hole);
            for (int place = 0; place <= 2 * far; place++) {
                boolean beside = place != far && isThere(hole + far - place);
                losses[place] = beside ? shares[Math.abs(far - place)] : 0;
            }
        }

        /** A state has the PHASES of the latest HOLES (far on either side of one), two bits each, the latest lowest. */
        private void tryHole(int hole, int state, int far) {
            int window = state << 2;
            int middle = beatIn(window, far);
            int pace = judged ? paceIn(window, middle, far) : 100;
            int choices = isThere(hole) ? PHASES : 1;
            for (int beat = 0; beat < choices; beat++) {
                long all = now[state];
                if (beat > 0) {
                    all += ((long) beat << HOLE_BITS) + ((long) beat << (2 * (HOLES - 1 - hole)));
                }
                if (judged && Math.max(0, pace - (beat == middle ? losses[0] : 0)) < least) {
                    all += 1L << (HOLE_BITS + SUM_BITS);
                }
                int after = (window + beat) & ((1 << (4 * far)) - 1);
                then[after] = Math.min(then[after], all);
            }
        }

        /** PACE of the HOLE in the middle of a window, without what the latest HOLE takes of it. */
        private int paceIn(int window, int middle, int far) {
            int pace = 100;
            for (int place = 1; place <= 2 * far; place++) {
                pace -= beatIn(window, place) == middle ? losses[place] : 0;
            }
            return pace;
        }

        private static int beatIn(int window, int place) {
            return (window >>> (2 * place)) & 3;
        }

        int bestSlow() {
            return (int) (best >>> (HOLE_BITS + SUM_BITS));
        }

        int bestSum() {
            return (int) (best >>> HOLE_BITS) & ((1 << SUM_BITS) - 1);
        }

        int bestBeat(int hole) {
            return (int) (best >>> (2 * (HOLES - 1 - hole))) & 3;
        }
    }

    /** STATES of holes and their ODDS, as numbers of four parts of sixteen digits each. */
    private static final class Chances {
        static final int STATES = 4;
        static final int MOST_SECONDS = 30;
        private static final int PARTS = 4;
        private static final int PART_DIGITS = 16;
        private static final long PART = 10000000000000000L;

        /** Of 100 in one STATE (times STATES) how many are in another one a SECOND later. */
        private final int[] moves = {100, 0, 0, 0, 0, 100, 0, 0, 0, 0, 100, 0, 0, 0, 0, 100};
        /** ODDS of each STATE (times PARTS), the lowest part first. */
        private final long[] now = new long[STATES * PARTS];
        private final long[] then = new long[STATES * PARTS];

        /** GOES: what it was; -1, doing nothing, if too few would stay. */
        int turn(int from, int to, int v) {
            int was = moves[from * STATES + to];
            int stay = moves[from * STATES + from] + was - v;
            if (stay < 0) {
                return -1;
            }
            moves[from * STATES + to] = v;
            moves[from * STATES + from] = stay;
            return was;
        }

        private void start(int from) {
            Arrays.fill(now, 0L);
            now[from * PARTS] = 1;
        }

        void run(int from, int seconds) {
            start(from);
            for (int second = 0; second < seconds; second++) {
                step();
            }
        }

        private void step() {
            for (int to = 0; to < STATES; to++) {
                long carry = 0;
                for (int part = 0; part < PARTS; part++) {
                    long sum = carry;
                    for (int from = 0; from < STATES; from++) {
                        sum += now[from * PARTS + part] * moves[from * STATES + to];
                    }
                    then[to * PARTS + part] = sum % PART;
                    carry = sum / PART;
                }
            }
            System.arraycopy(then, 0, now, 0, STATES * PARTS);
        }

        int digit(int state, int k) {
            long part = now[state * PARTS + k / PART_DIGITS];
            for (int lower = k % PART_DIGITS; lower > 0; lower--) {
                part /= 10;
            }
            return (int) (part % 10);
        }

        /** The STATE with the greatest ODDS; of these the least. */
        int greatest() {
            int most = 0;
            for (int state = 1; state < STATES; state++) {
                if (isGreater(state, most)) {
                    most = state;
                }
            }
            return most;
        }

        private boolean isGreater(int one, int other) {
            for (int part = PARTS - 1; part >= 0; part--) {
                long a = now[one * PARTS + part];
                long b = now[other * PARTS + part];
                if (a != b) {
                    return a > b;
                }
            }
            return false;
        }

        int firstBelow(int from, int to, int hundredths) {
            start(from);
            for (int second = 0; second <= MOST_SECONDS; second++) {
                if (wholeHundredths(to, second) < hundredths) {
                    return second;
                }
                step();
            }
            return NONE;
        }

        /** ODDS in hundredths, rounded down: their digits from the highest to that of 100 to the power less 1. */
        private int wholeHundredths(int state, int seconds) {
            if (seconds == 0) {
                return 100 * digit(state, 0);
            }
            int top = 2 * seconds;
            return 100 * digit(state, top) + 10 * digit(state, top - 1) + digit(state, top - 2);
        }
    }
}
