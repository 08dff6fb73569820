/**
 * Cells of a chip placed in rows: nets, an analytic start, spreading, lawful spots, passes that shorten the wire,
 * and acts taken back. The words in capitals in the comments are those of the document.
 */
public final class CellRows {
    public static final int NONE = -1;

    private static final int WRONG_NUMBER = -1;
    private static final int NO_SUCH = -2;
    private static final int CANNOT_BE = -4;
    private static final int NO_ROOM = -5;
    private static final int UNREADABLE = -6;

    private static final int ACT_BLOCK = 0;
    private static final int ACT_FENCE = 1;
    private static final int ACT_CELL = 2;
    private static final int ACT_NET = 3;
    private static final int ACT_DROP = 4;
    private static final int ACT_WANT = 5;
    private static final int ACT_FIX = 6;
    private static final int ACT_FREE = 7;
    private static final int ACT_PUT = 8;
    private static final int ACT_TAKE = 9;
    private static final int ACT_START = 10;
    private static final int ACT_SPREAD = 11;
    private static final int ACT_LEGAL = 12;
    private static final int ACT_WINDOWS = 13;
    private static final int ACT_SWAPS = 14;
    private static final int ACT_HOPS = 15;
    private static final int ACT_SORTS = 16;
    private static final int ACT_SHAKE = 17;

    private static final int GAMMA = 0;
    private static final int TARGET = 1;
    private static final int PRESSURE = 2;
    private static final int STEP = 3;
    private static final int TALL = 4;
    private static final int LOAD = 5;
    private static final int TERMS = 6;
    private static final int[] TERM_FIRST = {16, 80, 4, 16, 4, 6};
    private static final int[] TERM_LEAST = {1, 10, 0, 1, 1, 1};
    private static final int[] TERM_MOST = {64, 100, 99, 64, 8, 99};

    private static final int FINE = 16;
    private static final int HALF = 8;
    private static final int MOST_ROWS = 8;
    private static final int LEAST_SITES = 8;
    private static final int MOST_SITES = 32;
    private static final int MOST_BLOCKS = 4;
    private static final int MOST_HALO = 4;
    private static final int MOST_FENCES = 3;
    private static final int MOST_CELLS = 20;
    private static final int MOST_WIDTH = 6;
    private static final int MOST_NETS = 16;
    private static final int MOST_WEIGHT = 9;
    private static final int LEAST_PINS = 2;
    private static final int MOST_PINS = 6;
    private static final int MOST_BYTES = 100;
    private static final int FED_BYTES = 20;
    private static final int MOST_KEPT = 12;
    private static final int MOST_GROUP = 5;
    /** How many orders the most CELLS of a GROUP can have. */
    private static final int MOST_ORDERS = 120;
    /** The first byte of a PAD is this and its ROW; below it are the CELLS. */
    private static final int PAD = 200;
    /** Far above every length and cost that can be, and far enough below overflow to be added to. */
    private static final int FAR = 1 << 28;

    private final int[] terms;
    private final int[] tape = new int[MOST_BYTES];
    private int taped;
    /** How many calls were REFUSED, by the negated number of the refusal. */
    private final int[] refused = new int[-UNREADABLE + 1];
    private int lastRefusal;

    private final Plan plan;
    /** A second plan, for what is tried and may not be kept. */
    private final Plan paper;
    private final History history;
    private final Ground ground;
    private final Wire wire;
    private final Bins bins;
    private final Analytic analytic;
    private final Packing packing;
    private final Passes passes;

    public CellRows(int rows, int sites) {
        int rowsThatCanBe = Math.max(1, Math.min(MOST_ROWS, rows));
        int sitesThatCanBe = Math.max(LEAST_SITES, Math.min(MOST_SITES, sites));
        int[] shared = TERM_FIRST.clone();
        terms = shared;
        plan = new Plan(rowsThatCanBe, sitesThatCanBe);
        paper = new Plan(rowsThatCanBe, sitesThatCanBe);
        history = new History(rowsThatCanBe, sitesThatCanBe);
        ground = new Ground(rowsThatCanBe, sitesThatCanBe);
        wire = new Wire(shared);
        bins = new Bins(rowsThatCanBe, sitesThatCanBe, shared);
        analytic = new Analytic(shared, wire, bins);
        packing = new Packing(shared, ground);
        passes = new Passes(wire, ground);
    }

    // ---- the acts

    public int terms(int what, int value) {
        if (what < 0 || what >= TERMS || value < TERM_LEAST[what] || value > TERM_MOST[what]) {
            return refuse(WRONG_NUMBER);
        }
        lastRefusal = 0;
        int was = terms[what];
        terms[what] = value;
        return was;
    }

    public int feed(int a, int b, int c, int d, int e) {
        if (taped + FED_BYTES > MOST_BYTES) {
            return NONE;
        }
        feedNumber(a);
        feedNumber(b);
        feedNumber(c);
        feedNumber(d);
        feedNumber(e);
        return taped;
    }

    public int end(int n) {
        if (n < 0 || n > taped) {
            return NONE;
        }
        taped = n;
        return n;
    }

    public int block(int low, int high, int first, int last, int halo) {
        if (!isRectangle(low, high, first, last) || halo < 0 || halo > MOST_HALO) {
            return refuse(WRONG_NUMBER);
        }
        int from = Math.max(0, first - halo);
        int to = Math.min(plan.sites - 1, last + halo);
        if (plan.cells.anyFixedIn(low, high, from, to)) {
            return refuse(CANNOT_BE);
        }
        if (plan.barred.size >= MOST_BLOCKS) {
            return refuse(NO_ROOM);
        }
        keepFor(ACT_BLOCK);
        plan.barred.add(low, high, from, to);
        plan.loseUnlawfulSpots();
        return plan.barred.size - 1;
    }

    public int fence(int low, int high, int first, int last) {
        if (!isRectangle(low, high, first, last)) {
            return refuse(WRONG_NUMBER);
        }
        if (plan.fences.anyOverlaps(low, high, first, last) || plan.cells.anyFixedIn(low, high, first, last)) {
            return refuse(CANNOT_BE);
        }
        if (plan.fences.size >= MOST_FENCES) {
            return refuse(NO_ROOM);
        }
        keepFor(ACT_FENCE);
        plan.fences.add(low, high, first, last);
        plan.loseUnlawfulSpots();
        return plan.fences.size - 1;
    }

    public int cell(int width, int fence) {
        if (width < 1 || width > MOST_WIDTH) {
            return refuse(WRONG_NUMBER);
        }
        if (!plan.hasFence(fence)) {
            return refuse(NO_SUCH);
        }
        if (plan.cells.size >= MOST_CELLS) {
            return refuse(NO_ROOM);
        }
        keepFor(ACT_CELL);
        plan.cells.add(width, fence, plan.greatestX(width) / 2, plan.greatestY() / 2);
        return plan.cells.size - 1;
    }

    public int net(int weight) {
        if (weight < 1 || weight > MOST_WEIGHT) {
            return refuse(WRONG_NUMBER);
        }
        if (plan.nets.size >= MOST_NETS) {
            return refuse(NO_ROOM);
        }
        int bytes = taped;
        taped = 0;
        if (!isNet(bytes)) {
            return refuse(UNREADABLE);
        }
        keepFor(ACT_NET);
        plan.nets.add(weight, tape, bytes / 2);
        return plan.nets.size - 1;
    }

    public int drop(int net) {
        if (!plan.hasNet(net)) {
            return refuse(NO_SUCH);
        }
        keepFor(ACT_DROP);
        int pins = plan.nets.pins[net];
        plan.nets.remove(net);
        return pins;
    }

    public int want(int cell, int x, int y) {
        if (x < 0 || x > plan.greatestX(1) || y < 0 || y > plan.greatestY()) {
            return refuse(WRONG_NUMBER);
        }
        if (!plan.hasCell(cell)) {
            return refuse(NO_SUCH);
        }
        Cells cells = plan.cells;
        if (cells.fixed[cell] || x > plan.greatestX(cells.width[cell])) {
            return refuse(CANNOT_BE);
        }
        keepFor(ACT_WANT);
        int far = Math.abs(x - cells.wantX[cell]) + Math.abs(y - cells.wantY[cell]);
        cells.wantX[cell] = x;
        cells.wantY[cell] = y;
        return far;
    }

    public int fix(int cell, int row, int site) {
        if (!plan.hasSite(row, site)) {
            return refuse(WRONG_NUMBER);
        }
        if (!plan.hasCell(cell)) {
            return refuse(NO_SUCH);
        }
        Cells cells = plan.cells;
        if (cells.fixed[cell] || !plan.isGroundFor(cell, row, site)
                || cells.anyFixedIn(row, row, site, site + cells.width[cell] - 1)) {
            return refuse(CANNOT_BE);
        }
        keepFor(ACT_FIX);
        int lost = cells.clearSites(cell, row, site);
        cells.place(cell, row, site);
        cells.fixed[cell] = true;
        cells.wantX[cell] = FINE * site;
        cells.wantY[cell] = FINE * row;
        return lost;
    }

    public int free(int cell) {
        if (!plan.hasCell(cell)) {
            return refuse(NO_SUCH);
        }
        if (!plan.cells.fixed[cell]) {
            return refuse(CANNOT_BE);
        }
        keepFor(ACT_FREE);
        plan.cells.fixed[cell] = false;
        return plan.cells.row[cell];
    }

    public int put(int cell, int row, int site) {
        if (!plan.hasSite(row, site)) {
            return refuse(WRONG_NUMBER);
        }
        if (!plan.hasCell(cell)) {
            return refuse(NO_SUCH);
        }
        if (plan.cells.fixed[cell] || !plan.isLawful(cell, row, site)) {
            return refuse(CANNOT_BE);
        }
        keepFor(ACT_PUT);
        plan.cells.place(cell, row, site);
        return wire.wireOf(plan);
    }

    public int take(int cell) {
        if (!plan.hasCell(cell)) {
            return refuse(NO_SUCH);
        }
        if (!plan.cells.isLooseAndPlaced(cell)) {
            return refuse(CANNOT_BE);
        }
        keepFor(ACT_TAKE);
        int row = plan.cells.row[cell];
        plan.cells.place(cell, NONE, NONE);
        return row;
    }

    public int start(int n) {
        if (n < 1 || n > 20) {
            return refuse(WRONG_NUMBER);
        }
        keepFor(ACT_START);
        return analytic.pullTogether(plan, n);
    }

    public int spread(int n) {
        if (n < 1 || n > 10) {
            return refuse(WRONG_NUMBER);
        }
        keepFor(ACT_SPREAD);
        lookAtGroundAndBins();
        return analytic.pushApart(plan, n);
    }

    public int legal() {
        paper.copyFrom(plan);
        if (!packing.makeLawful(paper)) {
            return refuse(NO_ROOM);
        }
        keepFor(ACT_LEGAL);
        plan.copyFrom(paper);
        return movesOf(plan.cells);
    }

    public int windows(int k) {
        if (k < 2 || k > 4) {
            return refuse(WRONG_NUMBER);
        }
        keepFor(ACT_WINDOWS);
        int before = wire.wireOf(plan);
        passes.reorderWindows(plan, k);
        return before - wire.wireOf(plan);
    }

    public int swaps() {
        keepFor(ACT_SWAPS);
        return passes.exchangeAll(plan);
    }

    public int hops() {
        keepFor(ACT_HOPS);
        int before = wire.wireOf(plan);
        passes.hopAll(plan);
        return before - wire.wireOf(plan);
    }

    public int sorts() {
        keepFor(ACT_SORTS);
        int before = wire.wireOf(plan);
        passes.sortAll(plan);
        return before - wire.wireOf(plan);
    }

    public int shake(int seed, int n, int heat) {
        if (seed < 0 || seed > 1000000 || n < 1 || n > 60 || heat < 0 || heat > 9999) {
            return refuse(WRONG_NUMBER);
        }
        if (plan.cells.size == 0) {
            return refuse(CANNOT_BE);
        }
        keepFor(ACT_SHAKE);
        return passes.shakeBy(plan, seed, n, heat);
    }

    public int undo() {
        if (history.size == 0) {
            return refuse(CANNOT_BE);
        }
        lastRefusal = 0;
        return history.takeBack(plan);
    }

    // ---- what is told

    public int cellOf(int cell, int what) {
        if (!plan.hasCell(cell)) {
            return NONE;
        }
        Cells cells = plan.cells;
        switch (what) {
            case 0:
                return cells.width[cell];
            case 1:
                return cells.fence[cell];
            case 2:
                return cells.fixed[cell] ? 1 : 0;
            case 3:
                return cells.wantX[cell];
            case 4:
                return cells.wantY[cell];
            case 5:
                return cells.row[cell];
            case 6:
                return cells.site[cell];
            case 7:
                return plan.nets.netsWith(cell);
            case 8:
                return cells.isPlaced(cell) ? cells.moveOf(cell, terms[TALL]) : NONE;
            default:
                return NONE;
        }
    }

    public int netOf(int net, int what) {
        if (!plan.hasNet(net)) {
            return NONE;
        }
        Nets nets = plan.nets;
        switch (what) {
            case 0:
                return nets.weight[net];
            case 1:
                return nets.pins[net];
            case 2:
                return wire.spanOf(plan, net);
            case 3:
                return wire.smoothSpanOf(plan, net);
            default:
                return pinByte(net, what);
        }
    }

    public int bin(int bin, int what) {
        if (bin < 0 || bin >= bins.size) {
            return NONE;
        }
        switch (what) {
            case 0:
                lookAtGroundAndBins();
                return bins.supply[bin];
            case 1:
                lookAtGroundAndBins();
                return bins.need[bin];
            case 2:
                lookAtGroundAndBins();
                return bins.overOf(bin);
            case 3:
                bins.findDemand(plan, wire);
                return bins.demand[bin];
            default:
                return NONE;
        }
    }

    public int measure(int what) {
        switch (what) {
            case 0:
                return wire.wireOf(plan);
            case 1:
                return wire.smoothOf(plan);
            case 2:
                lookAtGroundAndBins();
                return bins.overflow();
            case 3:
                lookAtGroundAndBins();
                return analytic.costOf(plan);
            case 4:
                return movesOf(plan.cells);
            case 5:
                return plan.cells.withoutSpot();
            default:
                return measureOfDemand(what);
        }
    }

    public boolean lawful(int cell, int row, int site) {
        return plan.hasCell(cell) && plan.isLawful(cell, row, site);
    }

    public int runs(int row, int fence) {
        if (row < 0 || row >= plan.rows || !plan.hasFence(fence)) {
            return NONE;
        }
        ground.paint(plan);
        ground.findRunsOf(row, fence);
        return ground.runs;
    }

    public int run(int row, int fence, int i, int what) {
        if (i < 0 || i >= runs(row, fence)) {
            return NONE;
        }
        int lying = ground.findCellsIn(i, plan.cells);
        switch (what) {
            case 0:
                return ground.runFirst[i];
            case 1:
                return ground.runLength[i];
            case 2:
                return lying;
            case 3:
                return ground.runLength[i] - plan.cells.widthsOf(ground.lying, lying);
            case 4:
                return packing.leastOf(plan.cells, ground.lying, lying, i);
            default:
                return what >= 10 && what - 10 < lying ? ground.lying[what - 10] : NONE;
        }
    }

    public int would(int cell, int row, int site) {
        if (!plan.hasCell(cell) || !plan.isInChip(cell, row, site)) {
            return NONE;
        }
        wire.lookAround(plan, cell);
        return wire.wireOf(plan) - wire.wireAsItIs(plan, cell) + wire.wireAt(FINE * site, FINE * row);
    }

    public int best(int cell, int what) {
        if (!plan.hasCell(cell) || !plan.cells.isPlaced(cell) || what < 0 || what > 2) {
            return NONE;
        }
        Cells cells = plan.cells;
        wire.lookAround(plan, cell);
        int y = FINE * cells.row[cell];
        int least = FAR;
        int first = NONE;
        int last = NONE;
        for (int site = 0; site <= plan.sites - cells.width[cell]; site++) {
            int length = wire.wireAt(FINE * site, y);
            if (length < least) {
                least = length;
                first = site;
            }
            if (length == least) {
                last = site;
            }
        }
        if (what == 0) {
            return first;
        }
        return what == 1 ? last : wire.wireOf(plan) - wire.wireAsItIs(plan, cell) + least;
    }

    public int lawfully(int what) {
        if (what != 0 && what != 1) {
            return NONE;
        }
        paper.copyFrom(plan);
        if (!packing.makeLawful(paper)) {
            return what == 0 ? NO_ROOM : NONE;
        }
        return what == 0 ? movesOf(paper.cells) : wire.wireOf(paper);
    }

    public int fillers(int width) {
        if (width != 1 && width != 2 && width != 4) {
            return NONE;
        }
        ground.paint(plan);
        ground.findAllRuns(plan.fences.size);
        int filled = 0;
        for (int run = 0; run < ground.runs; run++) {
            int lying = ground.findCellsIn(run, plan.cells);
            int from = ground.runFirst[run];
            for (int k = 0; k < lying; k++) {
                int cell = ground.lying[k];
                filled += fillersOfGap(plan.cells.site[cell] - from, width);
                from = plan.cells.site[cell] + plan.cells.width[cell];
            }
            filled += fillersOfGap(ground.runFirst[run] + ground.runLength[run] - from, width);
        }
        return filled;
    }

    public int count(int what) {
        switch (what) {
            case 0:
                return plan.rows;
            case 1:
                return plan.sites;
            case 2:
                return plan.barred.size;
            case 3:
                return plan.fences.size;
            case 4:
                return plan.cells.size;
            case 5:
                return plan.nets.size;
            case 6:
                return bins.size;
            case 7:
                return history.size;
            case 8:
                return taped;
            case 9:
                return refused[-WRONG_NUMBER];
            case 10:
                return refused[-NO_SUCH];
            case 11:
                return refused[-CANNOT_BE];
            case 12:
                return refused[-NO_ROOM];
            case 13:
                return refused[-UNREADABLE];
            default:
                return what >= 14 && what < 14 + TERMS ? terms[what - 14] : NONE;
        }
    }

    public int status() {
        return lastRefusal;
    }

    // ---- what the acts and the tellings share

    private int refuse(int by) {
        refused[-by]++;
        lastRefusal = by;
        return by;
    }

    /** An act that is not REFUSED can be undone, whether it changes something or not. */
    private void keepFor(int act) {
        lastRefusal = 0;
        history.keep(plan, act);
    }

    private void feedNumber(int number) {
        for (int shift = 24; shift >= 0; shift -= 8) {
            tape[taped] = (number >>> shift) & 255;
            taped++;
        }
    }

    private boolean isRectangle(int low, int high, int first, int last) {
        return low >= 0 && low <= high && high < plan.rows && first >= 0 && first <= last && last < plan.sites;
    }

    /** Whether the first bytes of the TAPE are the PINS of a NET. */
    private boolean isNet(int bytes) {
        if (bytes % 2 != 0 || bytes < 2 * LEAST_PINS || bytes > 2 * MOST_PINS) {
            return false;
        }
        for (int i = 0; i < bytes; i += 2) {
            if (!isPin(tape[i], tape[i + 1])) {
                return false;
            }
            for (int j = 0; j < i; j += 2) {
                if (tape[i] < PAD && tape[j] == tape[i]) {
                    return false;
                }
            }
        }
        return true;
    }

    private boolean isPin(int head, int tail) {
        if (head >= PAD) {
            return plan.hasSite(head - PAD, tail);
        }
        return plan.hasCell(head) && tail < plan.cells.width[head];
    }

    private int pinByte(int net, int what) {
        if (what < 10 || what >= 10 + 2 * plan.nets.pins[net]) {
            return NONE;
        }
        int at = net * MOST_PINS + (what - 10) / 2;
        return what % 2 == 0 ? plan.nets.head[at] : plan.nets.tail[at];
    }

    private void lookAtGroundAndBins() {
        ground.paint(plan);
        bins.findSupply(ground);
        bins.findNeed(plan.cells);
    }

    private int measureOfDemand(int what) {
        if (what < 6 || what > 8) {
            return NONE;
        }
        bins.findDemand(plan, wire);
        int fullest = bins.fullest();
        if (what == 6) {
            return bins.demand[fullest];
        }
        return what == 7 ? fullest : bins.crowded();
    }

    /** MOVES of all CELLS with SPOTS; FIXED ones lie at their WANTS and bring nothing. */
    private int movesOf(Cells cells) {
        int moves = 0;
        for (int cell = 0; cell < cells.size; cell++) {
            if (cells.isPlaced(cell)) {
                moves += cells.moveOf(cell, terms[TALL]);
            }
        }
        return moves;
    }

    private static int fillersOfGap(int gap, int width) {
        if (width == 4) {
            return gap / 4;
        }
        return width == 2 ? gap % 4 / 2 : gap % 2;
    }

    // ---- the classes inside

    /** Rectangles of ROWS and SITES. */
    private static final class Boxes {
        int size;
        final int[] low;
        final int[] high;
        final int[] first;
        final int[] last;

        Boxes(int most) {
            low = new int[most];
            high = new int[most];
            first = new int[most];
            last = new int[most];
        }

        void copyFrom(Boxes other) {
            size = other.size;
            System.arraycopy(other.low, 0, low, 0, low.length);
            System.arraycopy(other.high, 0, high, 0, high.length);
            System.arraycopy(other.first, 0, first, 0, first.length);
            System.arraycopy(other.last, 0, last, 0, last.length);
        }

        void add(int lowRow, int highRow, int firstSite, int lastSite) {
            if (size >= low.length) {
                return;
            }
            low[size] = lowRow;
            high[size] = highRow;
            first[size] = firstSite;
            last[size] = lastSite;
            size++;
        }

        boolean anyOverlaps(int lowRow, int highRow, int firstSite, int lastSite) {
            for (int box = 0; box < size; box++) {
                if (low[box] <= highRow && lowRow <= high[box]
                        && first[box] <= lastSite && firstSite <= last[box]) {
                    return true;
                }
            }
            return false;
        }

        boolean holds(int box, int row, int firstSite, int lastSite) {
            return low[box] <= row && row <= high[box] && first[box] <= firstSite && lastSite <= last[box];
        }
    }

    /** The CELLS; a ROW and a SITE of NONE are no SPOT. */
    private static final class Cells {
        int size;
        final int[] width = new int[MOST_CELLS];
        final int[] fence = new int[MOST_CELLS];
        final boolean[] fixed = new boolean[MOST_CELLS];
        final int[] wantX = new int[MOST_CELLS];
        final int[] wantY = new int[MOST_CELLS];
        final int[] row = new int[MOST_CELLS];
        final int[] site = new int[MOST_CELLS];

        void copyFrom(Cells other) {
            size = other.size;
            System.arraycopy(other.width, 0, width, 0, MOST_CELLS);
            System.arraycopy(other.fence, 0, fence, 0, MOST_CELLS);
            System.arraycopy(other.wantX, 0, wantX, 0, MOST_CELLS);
            System.arraycopy(other.wantY, 0, wantY, 0, MOST_CELLS);
            System.arraycopy(other.row, 0, row, 0, MOST_CELLS);
            System.arraycopy(other.site, 0, site, 0, MOST_CELLS);
            // the library's copies are for arrays of numbers
            for (int cell = 0; cell < MOST_CELLS; cell++) {
                fixed[cell] = other.fixed[cell];
            }
        }

        void add(int newWidth, int newFence, int x, int y) {
            if (size >= MOST_CELLS) {
                return;
            }
            width[size] = newWidth;
            fence[size] = newFence;
            fixed[size] = false;
            wantX[size] = x;
            wantY[size] = y;
            row[size] = NONE;
            site[size] = NONE;
            size++;
        }

        void place(int cell, int newRow, int newSite) {
            row[cell] = newRow;
            site[cell] = newSite;
        }

        void exchange(int a, int b) {
            int rowOfA = row[a];
            int siteOfA = site[a];
            place(a, row[b], site[b]);
            place(b, rowOfA, siteOfA);
        }

        boolean isPlaced(int cell) {
            return row[cell] != NONE;
        }

        boolean isLooseAndPlaced(int cell) {
            return !fixed[cell] && row[cell] != NONE;
        }

        /** Whether two CELLS may lie at each other's SPOTS. */
        boolean canExchange(int a, int b) {
            return a != b && isLooseAndPlaced(a) && isLooseAndPlaced(b)
                    && width[a] == width[b] && fence[a] == fence[b];
        }

        boolean liesAcross(int cell, int atRow, int firstSite, int lastSite) {
            return row[cell] == atRow && site[cell] <= lastSite && firstSite < site[cell] + width[cell];
        }

        boolean anyFixedIn(int lowRow, int highRow, int firstSite, int lastSite) {
            for (int cell = 0; cell < size; cell++) {
                if (fixed[cell] && lowRow <= row[cell] && row[cell] <= highRow
                        && liesAcross(cell, row[cell], firstSite, lastSite)) {
                    return true;
                }
            }
            return false;
        }

        boolean anyOtherIn(int cell, int atRow, int firstSite, int lastSite) {
            for (int other = 0; other < size; other++) {
                if (other != cell && liesAcross(other, atRow, firstSite, lastSite)) {
                    return true;
                }
            }
            return false;
        }

        /** The LOOSE CELLS that lie where a CELL comes lose their SPOTS: how many. */
        int clearSites(int cell, int atRow, int atSite) {
            int lost = 0;
            for (int other = 0; other < size; other++) {
                if (other != cell && !fixed[other]
                        && liesAcross(other, atRow, atSite, atSite + width[cell] - 1)) {
                    place(other, NONE, NONE);
                    lost++;
                }
            }
            return lost;
        }

        int moveOf(int cell, int tall) {
            int farX = Math.abs(FINE * site[cell] - wantX[cell]);
            int farY = Math.abs(FINE * row[cell] - wantY[cell]);
            return width[cell] * (farX + tall * farY);
        }

        int withoutSpot() {
            int without = 0;
            for (int cell = 0; cell < size; cell++) {
                if (!isPlaced(cell)) {
                    without++;
                }
            }
            return without;
        }

        int widthsOf(int[] list, int listed) {
            int widths = 0;
            for (int k = 0; k < listed; k++) {
                widths += width[list[k]];
            }
            return widths;
        }
    }

    /** The NETS; each has room for the most PINS, two bytes a PIN as on the TAPE. */
    private static final class Nets {
        int size;
        final int[] weight = new int[MOST_NETS];
        final int[] pins = new int[MOST_NETS];
        final int[] head = new int[MOST_NETS * MOST_PINS];
        final int[] tail = new int[MOST_NETS * MOST_PINS];

        void copyFrom(Nets other) {
            size = other.size;
            System.arraycopy(other.weight, 0, weight, 0, MOST_NETS);
            System.arraycopy(other.pins, 0, pins, 0, MOST_NETS);
            System.arraycopy(other.head, 0, head, 0, MOST_NETS * MOST_PINS);
            System.arraycopy(other.tail, 0, tail, 0, MOST_NETS * MOST_PINS);
        }

        void add(int newWeight, int[] bytes, int newPins) {
            if (size >= MOST_NETS || newPins > MOST_PINS || 2 * newPins > bytes.length) {
                return;
            }
            weight[size] = newWeight;
            pins[size] = newPins;
            for (int k = 0; k < newPins; k++) {
                head[size * MOST_PINS + k] = bytes[2 * k];
                tail[size * MOST_PINS + k] = bytes[2 * k + 1];
            }
            size++;
        }

        void remove(int net) {
            for (int above = net + 1; above < size; above++) {
                weight[above - 1] = weight[above];
                pins[above - 1] = pins[above];
                for (int k = 0; k < MOST_PINS; k++) {
                    head[(above - 1) * MOST_PINS + k] = head[above * MOST_PINS + k];
                    tail[(above - 1) * MOST_PINS + k] = tail[above * MOST_PINS + k];
                }
            }
            size--;
        }

        /** Which PIN of a NET is a CELL's, or NONE. */
        int pinOf(int net, int cell) {
            int at = net * MOST_PINS;
            for (int k = 0; k < pins[net]; k++) {
                if (head[at + k] == cell) {
                    return k;
                }
            }
            return NONE;
        }

        int netsWith(int cell) {
            int with = 0;
            for (int net = 0; net < size; net++) {
                if (pinOf(net, cell) != NONE) {
                    with++;
                }
            }
            return with;
        }

        boolean share(int a, int b) {
            for (int net = 0; net < size; net++) {
                if (pinOf(net, a) != NONE && pinOf(net, b) != NONE) {
                    return true;
                }
            }
            return false;
        }
    }

    /** All that undo() brings back: the chip and what is on it. */
    private static final class Plan {
        final int rows;
        final int sites;
        /** The BLOCKS with their HALOS, cut to the chip: nothing else of them is ever asked. */
        final Boxes barred = new Boxes(MOST_BLOCKS);
        final Boxes fences = new Boxes(MOST_FENCES);
        final Cells cells = new Cells();
        final Nets nets = new Nets();

        Plan(int rows, int sites) {
            this.rows = rows;
            this.sites = sites;
        }

        void copyFrom(Plan other) {
            barred.copyFrom(other.barred);
            fences.copyFrom(other.fences);
            cells.copyFrom(other.cells);
            nets.copyFrom(other.nets);
        }

        int greatestX(int width) {
            return FINE * (sites - width);
        }

        int greatestY() {
            return FINE * (rows - 1);
        }

        boolean hasSite(int row, int site) {
            return row >= 0 && row < rows && site >= 0 && site < sites;
        }

        boolean hasFence(int number) {
            return number == NONE || number >= 0 && number < fences.size;
        }

        boolean hasCell(int number) {
            return number >= 0 && number < cells.size;
        }

        boolean hasNet(int number) {
            return number >= 0 && number < nets.size;
        }

        boolean isInChip(int cell, int row, int site) {
            return row >= 0 && row < rows && site >= 0 && site <= sites - cells.width[cell];
        }

        /** Whether a SPOT is LAWFUL for a CELL, all other CELLS aside. */
        boolean isGroundFor(int cell, int row, int site) {
            if (!isInChip(cell, row, site)) {
                return false;
            }
            int last = site + cells.width[cell] - 1;
            if (barred.anyOverlaps(row, row, site, last)) {
                return false;
            }
            int own = cells.fence[cell];
            return own == NONE ? !fences.anyOverlaps(row, row, site, last) : fences.holds(own, row, site, last);
        }

        boolean isLawful(int cell, int row, int site) {
            return isGroundFor(cell, row, site)
                    && !cells.anyOtherIn(cell, row, site, site + cells.width[cell] - 1);
        }

        void loseUnlawfulSpots() {
            for (int cell = 0; cell < cells.size; cell++) {
                if (cells.isLooseAndPlaced(cell) && !isGroundFor(cell, cells.row[cell], cells.site[cell])) {
                    cells.place(cell, NONE, NONE);
                }
            }
        }

        int cornerX(int cell) {
            return cells.row[cell] == NONE ? cells.wantX[cell] : FINE * cells.site[cell];
        }

        int cornerY(int cell) {
            return cells.row[cell] == NONE ? cells.wantY[cell] : FINE * cells.row[cell];
        }

        int heldX(int cell, int x) {
            int held = x;
            int own = cells.fence[cell];
            if (own != NONE) {
                int last = Math.max(fences.first[own], fences.last[own] + 1 - cells.width[cell]);
                held = Math.max(FINE * fences.first[own], Math.min(FINE * last, held));
            }
            return Math.max(0, Math.min(greatestX(cells.width[cell]), held));
        }

        int heldY(int cell, int y) {
            int held = y;
            int own = cells.fence[cell];
            if (own != NONE) {
                held = Math.max(FINE * fences.low[own], Math.min(FINE * fences.high[own], held));
            }
            return Math.max(0, Math.min(greatestY(), held));
        }
    }

    /** The plans as they were ahead of the latest acts, in a ring that is made once. */
    private static final class History {
        int size;
        private int next;
        private final Plan[] kept = new Plan[MOST_KEPT];
        private final int[] acts = new int[MOST_KEPT];

        History(int rows, int sites) {
            for (int i = 0; i < MOST_KEPT; i++) {
                kept[i] = new Plan(rows, sites);
            }
        }

        void keep(Plan plan, int act) {
            kept[next].copyFrom(plan);
            acts[next] = act;
            next = (next + 1) % MOST_KEPT;
            size = Math.min(MOST_KEPT, size + 1);
        }

        int takeBack(Plan plan) {
            next = (next + MOST_KEPT - 1) % MOST_KEPT;
            size--;
            plan.copyFrom(kept[next]);
            return acts[next];
        }
    }

    /** Whose each SITE is, and the RUNS that follow from it. */
    private static final class Ground {
        /** A SITE that is BARRED or a FIXED CELL's; the others have the number of their FENCE, or NONE. */
        private static final int CLOSED = -2;
        final int rows;
        final int sites;
        private final int[] owner;
        int runs;
        final int[] runRow;
        final int[] runFence;
        final int[] runFirst;
        final int[] runLength;
        /** The CELLS of the RUN that was looked at last, from the left. */
        final int[] lying = new int[MOST_CELLS];

        Ground(int rows, int sites) {
            this.rows = rows;
            this.sites = sites;
            owner = new int[rows * sites];
            runRow = new int[rows * sites];
            runFence = new int[rows * sites];
            runFirst = new int[rows * sites];
            runLength = new int[rows * sites];
        }

        void paint(Plan plan) {
            for (int i = 0; i < owner.length; i++) {
                owner[i] = NONE;
            }
            Boxes fences = plan.fences;
            for (int i = 0; i < fences.size; i++) {
                paintBox(fences, i, i);
            }
            for (int i = 0; i < plan.barred.size; i++) {
                paintBox(plan.barred, i, CLOSED);
            }
            Cells cells = plan.cells;
            for (int cell = 0; cell < cells.size; cell++) {
                if (cells.fixed[cell]) {
                    paintSites(cells.row[cell], cells.site[cell], cells.site[cell] + cells.width[cell] - 1, CLOSED);
                }
            }
        }

        private void paintBox(Boxes boxes, int box, int colour) {
            for (int row = boxes.low[box]; row <= boxes.high[box]; row++) {
                paintSites(row, boxes.first[box], boxes.last[box], colour);
            }
        }

        private void paintSites(int row, int first, int last, int colour) {
            for (int site = first; site <= last; site++) {
                owner[row * sites + site] = colour;
            }
        }

        boolean isOpen(int row, int site) {
            return owner[row * sites + site] != CLOSED;
        }

        void findRunsOf(int row, int fence) {
            runs = 0;
            addRunsOf(row, fence);
        }

        void findAllRuns(int fences) {
            runs = 0;
            for (int row = 0; row < rows; row++) {
                for (int fence = NONE; fence < fences; fence++) {
                    addRunsOf(row, fence);
                }
            }
        }

        private void addRunsOf(int row, int fence) {
            boolean inside = false;
            for (int site = 0; site < sites; site++) {
                boolean own = owner[row * sites + site] == fence;
                if (own && !inside) {
                    runRow[runs] = row;
                    runFence[runs] = fence;
                    runFirst[runs] = site;
                    runLength[runs] = 0;
                    runs++;
                }
                if (own) {
                    runLength[runs - 1]++;
                }
                inside = own;
            }
        }

        /** The LOOSE CELLS that lie in a RUN, from the left, into lying: how many. */
        int findCellsIn(int run, Cells cells) {
            int found = 0;
            int first = runFirst[run];
            int last = first + runLength[run] - 1;
            for (int cell = 0; cell < cells.size; cell++) {
                if (!cells.fixed[cell] && cells.liesAcross(cell, runRow[run], first, last)) {
                    int at = found;
                    while (at > 0 && cells.site[lying[at - 1]] > cells.site[cell]) {
                        lying[at] = lying[at - 1];
                        at--;
                    }
                    lying[at] = cell;
                    found++;
                }
            }
            return found;
        }
    }

    /** WIRE, SMOOTH, and what WIRE comes to when one CELL moves. */
    private static final class Wire {
        private static final int WHOLE_SHARE = 4096;
        private static final int MOST_HALVINGS = 13;
        private final int[] terms;
        /** The box that was looked at last. */
        int left;
        int right;
        int low;
        int high;
        private final int[] places = new int[MOST_PINS];
        /** Of each NET of the CELL that was looked around: its PIN's OFFSET, and the box of all other PINS. */
        private int around;
        private final int[] aroundOffset = new int[MOST_NETS];
        private final int[] aroundWeight = new int[MOST_NETS];
        private final int[] aroundLeft = new int[MOST_NETS];
        private final int[] aroundRight = new int[MOST_NETS];
        private final int[] aroundLow = new int[MOST_NETS];
        private final int[] aroundHigh = new int[MOST_NETS];

        Wire(int[] terms) {
            this.terms = terms;
        }

        /** The box of the PINS of a NET but for one (NONE: of all), CELLS at SPOTS, those without at WANTS. */
        void lookAtBox(Plan plan, int net, int skipped) {
            left = FAR;
            right = -FAR;
            low = FAR;
            high = -FAR;
            Nets nets = plan.nets;
            int at = net * MOST_PINS;
            for (int k = 0; k < nets.pins[net]; k++) {
                if (k != skipped) {
                    int head = nets.head[at + k];
                    int shift = FINE * nets.tail[at + k] + HALF;
                    if (head >= PAD) {
                        stretchTo(shift, FINE * (head - PAD) + HALF);
                    } else {
                        stretchTo(plan.cornerX(head) + shift, plan.cornerY(head) + HALF);
                    }
                }
            }
        }

        private void stretchTo(int x, int y) {
            if (x < left) {
                left = x;
            }
            if (x > right) {
                right = x;
            }
            if (y < low) {
                low = y;
            }
            if (y > high) {
                high = y;
            }
        }

        int spanOf(Plan plan, int net) {
            lookAtBox(plan, net, NONE);
            return right - left + terms[TALL] * (high - low);
        }

        int wireOf(Plan plan) {
            int wire = 0;
            for (int net = 0; net < plan.nets.size; net++) {
                wire += plan.nets.weight[net] * spanOf(plan, net);
            }
            return wire;
        }

        /** Makes ready for wireAt: while one CELL moves, the boxes of the other PINS stay. */
        void lookAround(Plan plan, int cell) {
            around = 0;
            Nets nets = plan.nets;
            for (int net = 0; net < nets.size; net++) {
                int pin = nets.pinOf(net, cell);
                if (pin != NONE) {
                    lookAtBox(plan, net, pin);
                    aroundOffset[around] = nets.tail[net * MOST_PINS + pin];
                    aroundWeight[around] = nets.weight[net];
                    aroundLeft[around] = left;
                    aroundRight[around] = right;
                    aroundLow[around] = low;
                    aroundHigh[around] = high;
                    around++;
                }
            }
        }

        /** What the NETS of the CELL that was looked around bring to WIRE, were its corner there. */
        int wireAt(int x, int y) {
            int wire = 0;
            for (int i = 0; i < around; i++) {
                int pinX = x + FINE * aroundOffset[i] + HALF;
                int pinY = y + HALF;
                int wide = Math.max(aroundRight[i], pinX) - Math.min(aroundLeft[i], pinX);
                int tall = Math.max(aroundHigh[i], pinY) - Math.min(aroundLow[i], pinY);
                wire += aroundWeight[i] * (wide + terms[TALL] * tall);
            }
            return wire;
        }

        int wireAsItIs(Plan plan, int cell) {
            return wireAt(plan.cornerX(cell), plan.cornerY(cell));
        }

        int smoothOf(Plan plan) {
            int smooth = 0;
            for (int net = 0; net < plan.nets.size; net++) {
                smooth += plan.nets.weight[net] * smoothSpanOf(plan, net);
            }
            return smooth;
        }

        int smoothOfNetsWith(Plan plan, int cell) {
            int smooth = 0;
            for (int net = 0; net < plan.nets.size; net++) {
                if (plan.nets.pinOf(net, cell) != NONE) {
                    smooth += plan.nets.weight[net] * smoothSpanOf(plan, net);
                }
            }
            return smooth;
        }

        int smoothSpanOf(Plan plan, int net) {
            Nets nets = plan.nets;
            int pins = nets.pins[net];
            int at = net * MOST_PINS;
            for (int k = 0; k < pins; k++) {
                places[k] = wantedX(plan.cells, nets.head[at + k], nets.tail[at + k]);
            }
            int wide = smoothLength(pins);
            for (int k = 0; k < pins; k++) {
                places[k] = wantedY(plan.cells, nets.head[at + k]);
            }
            return wide + terms[TALL] * smoothLength(pins);
        }

        static int wantedX(Cells cells, int head, int tail) {
            return (head >= PAD ? 0 : cells.wantX[head]) + FINE * tail + HALF;
        }

        static int wantedY(Cells cells, int head) {
            return (head >= PAD ? FINE * (head - PAD) : cells.wantY[head]) + HALF;
        }

        private int smoothLength(int pins) {
            int least = FAR;
            int greatest = -FAR;
            for (int k = 0; k < pins; k++) {
                least = Math.min(least, places[k]);
                greatest = Math.max(greatest, places[k]);
            }
            return greatest - meanFarFrom(greatest, pins) - (least + meanFarFrom(least, pins));
        }

        private int meanFarFrom(int place, int pins) {
            int gamma = Math.max(1, terms[GAMMA]);
            int fars = 0;
            int shares = 0;
            for (int k = 0; k < pins; k++) {
                int far = Math.abs(place - places[k]);
                int halvings = far / gamma;
                int share = halvings >= MOST_HALVINGS ? 0 : WHOLE_SHARE >> halvings;
                fars += far * share;
                shares += share;
            }
            return shares == 0 ? 0 : fars / shares;
        }
    }

    /** The BINS: what they have room for, what is wanted of them, the wire that meets them. */
    private static final class Bins {
        private static final int BIN_SITES = 8;
        private static final int BIN_ROWS = 2;
        private static final int BIN_WIDE = BIN_SITES * FINE;
        private static final int BIN_HIGH = BIN_ROWS * FINE;
        final int size;
        private final int columns;
        private final int[] terms;
        final int[] supply;
        final int[] need;
        final int[] demand;

        Bins(int rows, int sites, int[] terms) {
            columns = (sites + BIN_SITES - 1) / BIN_SITES;
            size = columns * ((rows + BIN_ROWS - 1) / BIN_ROWS);
            this.terms = terms;
            supply = new int[size];
            need = new int[size];
            demand = new int[size];
        }

        private static void clear(int[] numbers) {
            for (int i = 0; i < numbers.length; i++) {
                numbers[i] = 0;
            }
        }

        void findSupply(Ground ground) {
            clear(supply);
            for (int row = 0; row < ground.rows; row++) {
                for (int site = 0; site < ground.sites; site++) {
                    if (ground.isOpen(row, site)) {
                        supply[row / BIN_ROWS * columns + site / BIN_SITES] += FINE * FINE;
                    }
                }
            }
        }

        void findNeed(Cells cells) {
            clear(need);
            for (int cell = 0; cell < cells.size; cell++) {
                if (!cells.fixed[cell]) {
                    addNeed(cells, cell, 1);
                }
            }
        }

        /** The rectangle of a CELL at its WANT comes to the NEEDS (sign 1) or goes from them (sign -1). */
        void addNeed(Cells cells, int cell, int sign) {
            int x = cells.wantX[cell];
            int y = cells.wantY[cell];
            int endX = x + FINE * cells.width[cell];
            int endY = y + FINE;
            for (int tier = y / BIN_HIGH; tier <= (endY - 1) / BIN_HIGH; tier++) {
                int high = Math.min(endY, (tier + 1) * BIN_HIGH) - Math.max(y, tier * BIN_HIGH);
                for (int column = x / BIN_WIDE; column <= (endX - 1) / BIN_WIDE; column++) {
                    int wide = Math.min(endX, (column + 1) * BIN_WIDE) - Math.max(x, column * BIN_WIDE);
                    need[tier * columns + column] += sign * wide * high;
                }
            }
        }

        int overOf(int bin) {
            return Math.max(0, need[bin] - supply[bin] * terms[TARGET] / 100);
        }

        int overflow() {
            int overflow = 0;
            for (int bin = 0; bin < size; bin++) {
                overflow += overOf(bin);
            }
            return overflow;
        }

        void findDemand(Plan plan, Wire wire) {
            clear(demand);
            for (int net = 0; net < plan.nets.size; net++) {
                wire.lookAtBox(plan, net, NONE);
                for (int tier = wire.low / BIN_HIGH; tier <= wire.high / BIN_HIGH; tier++) {
                    for (int column = wire.left / BIN_WIDE; column <= wire.right / BIN_WIDE; column++) {
                        demand[tier * columns + column] += plan.nets.weight[net];
                    }
                }
            }
        }

        int fullest() {
            int fullest = 0;
            for (int bin = 1; bin < size; bin++) {
                if (demand[bin] > demand[fullest]) {
                    fullest = bin;
                }
            }
            return fullest;
        }

        int crowded() {
            int crowded = 0;
            for (int bin = 0; bin < size; bin++) {
                if (demand[bin] > terms[LOAD]) {
                    crowded++;
                }
            }
            return crowded;
        }
    }

    /** TO START and TO SPREAD: what moves WANTS alone. */
    private static final class Analytic {
        private static final int TRIES = 5;
        private static final int[] TRY_X = {0, -1, 1, 0, 0};
        private static final int[] TRY_Y = {0, 0, 0, -1, 1};
        private final int[] terms;
        private final Wire wire;
        private final Bins bins;
        private final int[] oldX = new int[MOST_CELLS];
        private final int[] oldY = new int[MOST_CELLS];

        Analytic(int[] terms, Wire wire, Bins bins) {
            this.terms = terms;
            this.wire = wire;
            this.bins = bins;
        }

        /** TO START: how many WANTS are others than they were. */
        int pullTogether(Plan plan, int rounds) {
            Cells cells = plan.cells;
            System.arraycopy(cells.wantX, 0, oldX, 0, MOST_CELLS);
            System.arraycopy(cells.wantY, 0, oldY, 0, MOST_CELLS);
            for (int round = 0; round < rounds; round++) {
                for (int cell = 0; cell < cells.size; cell++) {
                    if (!cells.fixed[cell]) {
                        pullToMean(plan, cell);
                    }
                }
            }
            int others = 0;
            for (int cell = 0; cell < cells.size; cell++) {
                if (cells.wantX[cell] != oldX[cell] || cells.wantY[cell] != oldY[cell]) {
                    others++;
                }
            }
            return others;
        }

        private void pullToMean(Plan plan, int cell) {
            Nets nets = plan.nets;
            Cells cells = plan.cells;
            int weights = 0;
            int sumX = 0;
            int sumY = 0;
            for (int net = 0; net < nets.size; net++) {
                int own = nets.pinOf(net, cell);
                int at = net * MOST_PINS;
                for (int k = 0; own != NONE && k < nets.pins[net]; k++) {
                    if (k != own) {
                        int head = nets.head[at + k];
                        int cornerX = Wire.wantedX(cells, head, nets.tail[at + k])
                                - Wire.wantedX(cells, PAD, nets.tail[at + own]);
                        weights += nets.weight[net];
                        sumX += nets.weight[net] * cornerX;
                        sumY += nets.weight[net] * (Wire.wantedY(cells, head) - HALF);
                    }
                }
            }
            if (weights > 0) {
                cells.wantX[cell] = plan.heldX(cell, Math.floorDiv(sumX, weights));
                cells.wantY[cell] = plan.heldY(cell, Math.floorDiv(sumY, weights));
            }
        }

        /** COST; the BINS must have been looked at. */
        int costOf(Plan plan) {
            return 16 * wire.smoothOf(plan) + terms[PRESSURE] * bins.overflow();
        }

        /** TO SPREAD: by how much COST is less; the BINS must have been looked at. */
        int pushApart(Plan plan, int rounds) {
            int before = costOf(plan);
            for (int round = 0; round < rounds; round++) {
                for (int cell = 0; cell < plan.cells.size; cell++) {
                    if (!plan.cells.fixed[cell]) {
                        pushCell(plan, cell);
                    }
                }
            }
            return before - costOf(plan);
        }

        private void pushCell(Plan plan, int cell) {
            Cells cells = plan.cells;
            int x = cells.wantX[cell];
            int y = cells.wantY[cell];
            int leastX = x;
            int leastY = y;
            int least = FAR;
            for (int i = 0; i < TRIES; i++) {
                bins.addNeed(cells, cell, -1);
                if (i > 0) {
                    cells.wantX[cell] = plan.heldX(cell, x + TRY_X[i] * terms[STEP]);
                    cells.wantY[cell] = plan.heldY(cell, y + TRY_Y[i] * terms[STEP]);
                }
                bins.addNeed(cells, cell, 1);
                // the NETS that the CELL is not in bring the same wherever it is
                int cost = 16 * wire.smoothOfNetsWith(plan, cell) + terms[PRESSURE] * bins.overflow();
                if (cost < least) {
                    least = cost;
                    leastX = cells.wantX[cell];
                    leastY = cells.wantY[cell];
                }
            }
            bins.addNeed(cells, cell, -1);
            cells.wantX[cell] = leastX;
            cells.wantY[cell] = leastY;
            bins.addNeed(cells, cell, 1);
        }
    }

    /** LEAST of a RUN, and TO MAKE LAWFUL. */
    private static final class Packing {
        private final int[] terms;
        private final Ground ground;
        private final int[] order = new int[MOST_CELLS];
        private int ordered;
        private final int[] runOf = new int[MOST_CELLS];
        private final int[] runLeast;
        private final int[] runUsed;
        private final int[] list = new int[MOST_CELLS + 1];
        /** At [i][s]: the least cost of the listed CELLS from the i-th on, none ahead of SITE s of the RUN. */
        private final int[][] least = new int[MOST_CELLS + 1][MOST_SITES + 1];

        Packing(int[] terms, Ground ground) {
            this.terms = terms;
            this.ground = ground;
            runLeast = new int[ground.rows * ground.sites];
            runUsed = new int[ground.rows * ground.sites];
        }

        /** LEAST of a RUN with these CELLS in this order; FAR or more, if there is no room for them. */
        int leastOf(Cells cells, int[] listed, int many, int run) {
            int length = ground.runLength[run];
            int first = ground.runFirst[run];
            for (int s = 0; s <= length; s++) {
                least[many][s] = 0;
            }
            for (int i = many - 1; i >= 0; i--) {
                int cell = listed[i];
                int width = cells.width[cell];
                int cost = FAR;
                for (int s = length; s >= 0; s--) {
                    if (s + width <= length) {
                        cost = Math.min(cost, costAt(cells, cell, first + s) + least[i + 1][s + width]);
                    }
                    least[i][s] = cost;
                }
            }
            return least[0][0];
        }

        private static int costAt(Cells cells, int cell, int site) {
            return cells.width[cell] * Math.abs(FINE * site - cells.wantX[cell]);
        }

        /** TO MAKE LAWFUL: whether there is room for all; if not, the plan is left half made. */
        boolean makeLawful(Plan plan) {
            Cells cells = plan.cells;
            ground.paint(plan);
            ground.findAllRuns(plan.fences.size);
            for (int run = 0; run < ground.runs; run++) {
                runLeast[run] = 0;
                runUsed[run] = 0;
            }
            orderByWant(cells);
            for (int i = 0; i < ordered; i++) {
                int run = cheapestRun(cells, i);
                if (run == NONE) {
                    return false;
                }
                runOf[order[i]] = run;
                runUsed[run] += cells.width[order[i]];
                runLeast[run] = leastOf(cells, list, listOf(run, i + 1), run);
            }
            for (int run = 0; run < ground.runs; run++) {
                if (runUsed[run] > 0) {
                    layOut(cells, run);
                }
            }
            return true;
        }

        /** All LOOSE CELLS by rising x of WANT, then by number. */
        private void orderByWant(Cells cells) {
            ordered = 0;
            for (int cell = 0; cell < cells.size; cell++) {
                if (!cells.fixed[cell]) {
                    int at = ordered;
                    while (at > 0 && cells.wantX[order[at - 1]] > cells.wantX[cell]) {
                        order[at] = order[at - 1];
                        at--;
                    }
                    order[at] = cell;
                    ordered++;
                }
            }
        }

        /** The CELLS of a RUN among the first ones of the order, into list: how many. */
        private int listOf(int run, int among) {
            int many = 0;
            for (int i = 0; i < among; i++) {
                if (runOf[order[i]] == run) {
                    list[many] = order[i];
                    many++;
                }
            }
            return many;
        }

        private int cheapestRun(Cells cells, int place) {
            int cell = order[place];
            int width = cells.width[cell];
            int cheapest = NONE;
            int leastPrice = FAR;
            for (int run = 0; run < ground.runs; run++) {
                if (ground.runFence[run] == cells.fence[cell] && runUsed[run] + width <= ground.runLength[run]) {
                    int many = listOf(run, place);
                    list[many] = cell;
                    int farY = Math.abs(FINE * ground.runRow[run] - cells.wantY[cell]);
                    int price = leastOf(cells, list, many + 1, run) - runLeast[run] + width * terms[TALL] * farY;
                    if (price < leastPrice) {
                        leastPrice = price;
                        cheapest = run;
                    }
                }
            }
            return cheapest;
        }

        /** The CELLS of a RUN where LEAST has them, each as far left as those ahead of it let LEAST be. */
        private void layOut(Cells cells, int run) {
            int many = listOf(run, ordered);
            leastOf(cells, list, many, run);
            int s = 0;
            for (int i = 0; i < many; i++) {
                int cell = list[i];
                int width = cells.width[cell];
                int first = ground.runFirst[run];
                int goal = least[i][s];
                int last = ground.runLength[run] - width;
                while (s < last && costAt(cells, cell, first + s) + least[i + 1][s + width] != goal) {
                    s++;
                }
                cells.place(cell, ground.runRow[run], first + s);
                s += width;
            }
        }
    }

    /** The PASSES and TO SHAKE: what moves SPOTS to shorten WIRE. */
    private static final class Passes {
        private final Wire wire;
        private final Ground ground;
        /** An order of places 0 on, and the best one so far. */
        private final int[] order = new int[MOST_GROUP];
        private final int[] bestOrder = new int[MOST_GROUP];
        private final int[] group = new int[MOST_GROUP];
        private final int[] gaps = new int[MOST_GROUP];
        private final int[] groupRow = new int[MOST_GROUP];
        private final int[] groupSite = new int[MOST_GROUP];
        private final int[] prices = new int[MOST_GROUP * MOST_GROUP];
        private final int[] bestRow = new int[MOST_CELLS];
        private final int[] bestSite = new int[MOST_CELLS];
        private int drawn;

        Passes(Wire wire, Ground ground) {
            this.wire = wire;
            this.ground = ground;
        }

        private void firstOrder(int many) {
            for (int i = 0; i < many; i++) {
                order[i] = i;
                bestOrder[i] = i;
            }
        }

        private void keepOrder(int many) {
            for (int i = 0; i < many; i++) {
                bestOrder[i] = order[i];
            }
        }

        /** The order behind this one, as words stand in a lexicon; false, if this is the last. */
        private boolean nextOrder(int many) {
            int i = many - 2;
            while (i >= 0 && order[i] > order[i + 1]) {
                i--;
            }
            if (i < 0) {
                return false;
            }
            int j = many - 1;
            while (j > i && order[j] < order[i]) {
                j--;
            }
            swapPlaces(i, j);
            int from = i + 1;
            int to = many - 1;
            while (from < to) {
                swapPlaces(from, to);
                from++;
                to--;
            }
            return true;
        }

        private void swapPlaces(int i, int j) {
            int was = order[i];
            order[i] = order[j];
            order[j] = was;
        }

        void reorderWindows(Plan plan, int k) {
            ground.paint(plan);
            ground.findAllRuns(plan.fences.size);
            for (int run = 0; run < ground.runs; run++) {
                int lying = ground.findCellsIn(run, plan.cells);
                for (int from = 0; from + k <= lying; from++) {
                    reorder(plan, from, k);
                }
            }
        }

        /** One window: the k CELLS of the RUN from that one on. */
        private void reorder(Plan plan, int from, int k) {
            Cells cells = plan.cells;
            for (int i = 0; i < k; i++) {
                group[i] = ground.lying[from + i];
            }
            for (int i = 0; i + 1 < k; i++) {
                gaps[i] = cells.site[group[i + 1]] - cells.site[group[i]] - cells.width[group[i]];
            }
            int start = cells.site[group[0]];
            firstOrder(k);
            int least = wire.wireOf(plan);
            for (int tried = 1; tried < MOST_ORDERS && nextOrder(k); tried++) {
                lineUp(cells, order, start, k);
                int now = wire.wireOf(plan);
                if (now < least) {
                    least = now;
                    keepOrder(k);
                }
            }
            lineUp(cells, bestOrder, start, k);
            for (int i = 0; i < k; i++) {
                ground.lying[from + i] = group[bestOrder[i]];
            }
        }

        private void lineUp(Cells cells, int[] places, int start, int k) {
            int site = start;
            for (int i = 0; i < k; i++) {
                int cell = group[places[i]];
                cells.site[cell] = site;
                site += cells.width[cell] + gaps[i];
            }
        }

        /** SWAPS: by how much WIRE is less. */
        int exchangeAll(Plan plan) {
            Cells cells = plan.cells;
            int before = wire.wireOf(plan);
            int now = before;
            for (int a = 0; a < cells.size; a++) {
                for (int b = a + 1; b < cells.size; b++) {
                    if (cells.canExchange(a, b)) {
                        now = exchangeWithin(plan, a, b, now, now - 1);
                    }
                }
            }
            return before - now;
        }

        /** Two CELLS are exchanged, if WIRE is at most so much then: what WIRE is in the end. */
        private int exchangeWithin(Plan plan, int a, int b, int now, int most) {
            plan.cells.exchange(a, b);
            int then = wire.wireOf(plan);
            if (then <= most) {
                return then;
            }
            plan.cells.exchange(a, b);
            return now;
        }

        void hopAll(Plan plan) {
            for (int cell = 0; cell < plan.cells.size; cell++) {
                if (plan.cells.isLooseAndPlaced(cell)) {
                    hop(plan, cell);
                }
            }
        }

        private void hop(Plan plan, int cell) {
            wire.lookAround(plan, cell);
            int least = wire.wireAsItIs(plan, cell);
            int leastRow = plan.cells.row[cell];
            int leastSite = plan.cells.site[cell];
            for (int row = 0; row < plan.rows; row++) {
                for (int site = 0; site <= plan.sites - plan.cells.width[cell]; site++) {
                    int then = wire.wireAt(FINE * site, FINE * row);
                    if (then < least && plan.isLawful(cell, row, site)) {
                        least = then;
                        leastRow = row;
                        leastSite = site;
                    }
                }
            }
            plan.cells.place(cell, leastRow, leastSite);
        }

        void sortAll(Plan plan) {
            for (int fence = NONE; fence < plan.fences.size; fence++) {
                for (int width = 1; width <= MOST_WIDTH; width++) {
                    int many = findGroup(plan, fence, width);
                    if (many > 1) {
                        sortGroup(plan, many);
                    }
                }
            }
        }

        private int findGroup(Plan plan, int fence, int width) {
            Cells cells = plan.cells;
            int many = 0;
            for (int cell = 0; cell < cells.size && many < MOST_GROUP; cell++) {
                if (cells.isLooseAndPlaced(cell) && cells.fence[cell] == fence && cells.width[cell] == width
                        && !sharesNet(plan.nets, cell, many)) {
                    group[many] = cell;
                    many++;
                }
            }
            return many;
        }

        private boolean sharesNet(Nets nets, int cell, int many) {
            for (int i = 0; i < many; i++) {
                if (nets.share(cell, group[i])) {
                    return true;
                }
            }
            return false;
        }

        /** No NET has two CELLS of a GROUP, so what each CELL brings to WIRE is its own SPOT's matter alone. */
        private void sortGroup(Plan plan, int many) {
            Cells cells = plan.cells;
            for (int i = 0; i < many; i++) {
                groupRow[i] = cells.row[group[i]];
                groupSite[i] = cells.site[group[i]];
            }
            for (int i = 0; i < many; i++) {
                wire.lookAround(plan, group[i]);
                for (int j = 0; j < many; j++) {
                    prices[i * MOST_GROUP + j] = wire.wireAt(FINE * groupSite[j], FINE * groupRow[j]);
                }
            }
            firstOrder(many);
            int least = priceOfOrder(many);
            for (int tried = 1; tried < MOST_ORDERS && nextOrder(many); tried++) {
                int price = priceOfOrder(many);
                if (price < least) {
                    least = price;
                    keepOrder(many);
                }
            }
            for (int i = 0; i < many; i++) {
                cells.place(group[i], groupRow[bestOrder[i]], groupSite[bestOrder[i]]);
            }
        }

        private int priceOfOrder(int many) {
            int price = 0;
            for (int i = 0; i < many; i++) {
                price += prices[i * MOST_GROUP + order[i]];
            }
            return price;
        }

        /** TO SHAKE: by how much WIRE is less. */
        int shakeBy(Plan plan, int seed, int tries, int heat) {
            Cells cells = plan.cells;
            int before = wire.wireOf(plan);
            int now = before;
            int least = before;
            int heatNow = heat;
            keepSpots(cells);
            drawn = seed;
            for (int i = 0; i < tries; i++) {
                int a = drawOf(cells.size);
                int b = drawOf(cells.size);
                if (cells.canExchange(a, b)) {
                    now = exchangeWithin(plan, a, b, now, now + heatNow);
                }
                if (now < least) {
                    least = now;
                    keepSpots(cells);
                }
                heatNow = 7 * heatNow / 8;
            }
            System.arraycopy(bestRow, 0, cells.row, 0, MOST_CELLS);
            System.arraycopy(bestSite, 0, cells.site, 0, MOST_CELLS);
            return before - least;
        }

        private void keepSpots(Cells cells) {
            System.arraycopy(cells.row, 0, bestRow, 0, MOST_CELLS);
            System.arraycopy(cells.site, 0, bestSite, 0, MOST_CELLS);
        }

        private int drawOf(int many) {
            drawn = (drawn * 1103 + 12345) % 1000003;
            return many <= 0 ? 0 : drawn % many;
        }
    }
}
