/** Promises 24 to 36: each sentence of the document that names an edge has a test of its own, which quotes it. */
final class EdgesOfTelling extends Checks {
    static void all() {
        cellOf();
        netOf();
        bins();
        measures();
        lawful();
        runs();
        run();
        would();
        best();
        lawfully();
        fillers();
        counts();
        statuses();
    }

    /** The call answers so; nothing is REFUSED, nothing is changed. */
    private static void tells(int answer, String what, Scene scene, Act act) {
        CellRows x = scene.set();
        CellRows twin = scene.set();
        x.terms(9, 9);
        twin.terms(9, 9);
        due(what, act.on(x), answer);
        due(what + ": status stays", x.status(), -1);
        for (int kind = 9; kind <= 13; kind++) {
            due(what + ": count " + kind, x.count(kind), twin.count(kind));
        }
        alike(what + ": what stands", x, twin);
    }

    // ---- promise 24

    private static void cellOf() {
        promise24Whats();
        promise24NoFenceNoSpot();
        promise24HowManyNets();
        promise24Move();
        promise24NoneForOthers();
    }

    private static void promise24Whats() {
        says(24, "Of a CELL: WIDTH (what 0), FENCE (1; NONE), 1 if FIXED (2), WANT's x (3), y (4), SPOT's ROW (5), SITE (6; "
                + "NONE)");
        int[][] dues = {{2, NONE, 0, 112, 8, 0, 0, 1, 2 * (112 + 32)}, {3, NONE, 1, 64, 0, 0, 4, 1, 0},
            {2, 0, 0, 112, 8, 0, 12, 1, 2 * (80 + 32)}, {1, NONE, 0, 120, 8, NONE, NONE, 1, NONE}};
        for (int cell = 0; cell < 4; cell++) {
            for (int what = 0; what <= 8; what++) {
                int one = cell;
                int asked = what;
                tells(dues[cell][what], "cell " + cell + ", what " + what, Checks::chip, x -> x.cellOf(one, asked));
            }
        }
    }

    private static void promise24NoFenceNoSpot() {
        says(24, "FENCE (1; NONE)");
        CellRows x = new CellRows(1, 8);
        x.fence(0, 0, 0, 0);
        x.fence(0, 0, 1, 1);
        x.fence(0, 0, 2, 2);
        for (int fence = NONE; fence < 3; fence++) {
            x.cell(1, fence);
            due("its fence", x.cellOf(fence + 1, 1), fence);
        }
        says(24, "SITE (6; NONE)");
        x.put(0, 0, 7);
        spotDue(x, 0, 0, 7);
        x.take(0);
        spotDue(x, 0, NONE, NONE);
    }

    private static void promise24HowManyNets() {
        says(24, "how many NETS it is in (7)");
        CellRows x = withCells(1, 8, 1, 1);
        due("none", x.cellOf(0, 7), 0);
        for (int nets = 1; nets <= 16; nets++) {
            net(x, 1, 200, 0, 0, 0);
            due("in each of them", x.cellOf(0, 7), nets);
            due("in none", x.cellOf(1, 7), 0);
        }
    }

    private static void promise24Move() {
        says(24, "MOVE (8; NONE without a SPOT)");
        CellRows x = withCells(8, 32, 6, 1);
        x.terms(4, 8);
        x.want(0, 0, 0);
        due("without a spot", x.cellOf(0, 8), NONE);
        x.put(0, 0, 0);
        due("where it wants to be", x.cellOf(0, 8), 0);
        x.put(0, 7, 26);
        due("as far as can be", x.cellOf(0, 8), 6 * (416 + 8 * 112));
        x.want(1, 15, 1);
        x.put(1, 0, 1);
        due("by one each", x.cellOf(1, 8), 1 + 8);
        x.put(1, 0, 0);
        due("to the other side", x.cellOf(1, 8), 15 + 8);
    }

    private static void promise24NoneForOthers() {
        says(24, "MOVE (8; NONE without a SPOT). NONE for others.");
        for (int what : new int[] {-1, 9, 10, LEAST, MOST}) {
            tells(NONE, "what " + what, Checks::chip, x -> x.cellOf(0, what));
        }
        for (int cell : new int[] {-1, 4, 20, LEAST, MOST}) {
            tells(NONE, "cell " + cell, Checks::chip, x -> x.cellOf(cell, 0));
        }
        due("of none", new CellRows(1, 8).cellOf(0, 0), NONE);
    }

    // ---- promise 25

    private static void netOf() {
        promise25Whats();
        promise25Span();
        promise25SpotsAndWants();
        promise25SmoothOnGamma();
        promise25SmoothThirteenTimes();
        promise25SmoothJustShort();
        promise25SmoothShiftsDoNotWrap();
        promise25SmoothByWants();
        promise25Pins();
        promise25NoneForOthers();
    }

    private static void promise25Whats() {
        says(25, "Of a NET: WEIGHT (what 0), how many PINS (1), SPAN (2), SMOOTH span (3)");
        // cell 0 at 0 has its pin at 24, cell 2 at 12 at 200; wants 112: at 136 and 120, y 16 both: 16 * 2048 / 6144 = 5
        int[] dues = {2, 2, 176, 16 - 10};
        for (int what = 0; what < 4; what++) {
            int asked = what;
            tells(dues[what], "what " + what, Checks::chip, x -> x.netOf(0, asked));
        }
    }

    private static void promise25Span() {
        says(25, "SPAN of a NET: greatest less least x of its PINS, and TALL times that of y");
        CellRows x = new CellRows(8, 32);
        net(x, 1, 200, 5, 200, 5);
        due("all at one place", x.netOf(0, 2), 0);
        net(x, 1, 200, 0, 207, 31);
        for (int tall = 1; tall <= 8; tall++) {
            x.terms(4, tall);
            due("from corner to corner", x.netOf(1, 2), 496 + tall * 112);
        }
        net(x, 1, 203, 9, 200, 12, 207, 3, 201, 31, 202, 0, 203, 9);
        due("six pins", x.netOf(2, 2), 496 + 8 * 112);
    }

    private static void promise25SpotsAndWants() {
        says(25, "CELLS being at their SPOTS, those without at their WANTS");
        CellRows x = withCells(2, 8, 1);
        net(x, 1, 0, 0, 200, 0);
        x.want(0, 1, 0);
        due("at its want", x.netOf(0, 2), 1);
        x.put(0, 0, 7);
        due("at its spot", x.netOf(0, 2), 112);
        x.take(0);
        due("at its want again", x.netOf(0, 2), 1);
    }

    /** The SMOOTH span of a pad at the corner and a pin so far to the right of it. */
    private static int smooth(int gamma, int far) {
        CellRows x = withCells(1, 32, 1);
        x.terms(0, gamma);
        x.want(0, far, 0);
        net(x, 1, 0, 0, 200, 0);
        return x.netOf(0, 3);
    }

    private static void promise25SmoothOnGamma() {
        says(25, "4096 halved as often as GAMMA goes into how far");
        due("far 0", smooth(16, 0), 0);
        // 243 * 512 / 4608 is just 27
        due("just a whole number", smooth(64, 243), 243 - 54);
        due("one less", smooth(64, 242), 242 - 52);
        // 15 * 4096 / 8192 = 7; 16 * 2048 / 6144 = 5; 31 / 3 = 10; 32 / 5 = 6
        due("one short of once", smooth(16, 15), 15 - 14);
        due("once", smooth(16, 16), 16 - 10);
        due("one short of twice", smooth(16, 31), 31 - 20);
        due("twice", smooth(16, 32), 32 - 12);
        // 63 / 2 = 31; 64 / 3 = 21
        due("GAMMA 64: one short of once", smooth(64, 63), 63 - 62);
        due("GAMMA 64: once", smooth(64, 64), 64 - 42);
        // 1 / 3 = 0; 2 / 5 = 0; 3 * 512 / 4608 = 0
        due("GAMMA 1: once", smooth(1, 1), 1);
        due("GAMMA 1: three times", smooth(1, 3), 3);
    }

    private static int smoothOfThree(int gamma, int left, int middle) {
        CellRows x = withCells(1, 32, 1, 1);
        x.terms(0, gamma);
        x.want(0, left, 0);
        x.want(1, middle, 0);
        net(x, 1, 0, 0, 1, 0, 200, 31);
        return x.netOf(0, 3);
    }

    private static void promise25SmoothThirteenTimes() {
        says(25, "(13 times or more: 0), quotients downwards");
        // pins at 504, 245 and 11: 259 far has 64 (6 times), 493 far has 1 (12 times): 17069 / 4161 = 4;
        // from the left 234 far has 64, 493 far has 1: 15469 / 4161 = 3
        due("one short of 13 times", smoothOfThree(38, 3, 237), 493 - 4 - 3);
        // 494 far has none: 16576 / 4160 = 3; from the left 235 * 64 / 4160 = 3
        due("13 times", smoothOfThree(38, 2, 237), 494 - 3 - 3);
    }

    private static void promise25SmoothJustShort() {
        says(25, "quotients downwards: (sum of far times SHARE) by (sum of SHARES)");
        // pins at 504, 251 and 53: 253 far has 64, 451 far has 1: 16643 / 4161 is one short of 4;
        // from the left 198 far has 128, 451 far has 1: 25795 / 4225 = 6
        due("one short of 4", smoothOfThree(37, 45, 243), 451 - 3 - 6);
    }

    private static void promise25SmoothShiftsDoNotWrap() {
        says(25, "13 times or more: 0");
        for (int far = 13; far <= 496; far++) {
            due("GAMMA 1, far " + far, smooth(1, far), far);
        }
    }

    private static void promise25SmoothByWants() {
        says(25, "SMOOTH span of a NET, all CELLS at their WANTS: of its x (then of y, TALL times) UPPER less LOWER");
        CellRows x = withCells(2, 8, 1);
        net(x, 1, 0, 0, 200, 0);
        x.want(0, 0, 16);
        x.put(0, 0, 7);
        due("by y alone", x.netOf(0, 3), 4 * (16 - 10));
        x.terms(4, 1);
        due("TALL 1", x.netOf(0, 3), 16 - 10);
        x.terms(4, 8);
        due("TALL 8", x.netOf(0, 3), 8 * (16 - 10));
        x.fix(0, 0, 1);
        due("the want of a fixed one is its spot", x.netOf(0, 3), 16 - 10);
    }

    private static void promise25Pins() {
        says(25, "of PIN k: its CELL, or 200 and the ROW of a PAD (10 + 2 k), its OFFSET or SITE (11 + 2 k)");
        CellRows x = withCells(8, 32, 6, 1);
        int[] bytes = {0, 5, 207, 31, 1, 0, 200, 0, 200, 31, 207, 0};
        net(x, 1, bytes);
        for (int k = 0; k < 12; k++) {
            due("byte " + k, x.netOf(0, 10 + k), bytes[k]);
        }
        due("no byte ahead of them", x.netOf(0, 9), NONE);
        due("no byte behind them", x.netOf(0, 22), NONE);
        net(x, 1, 1, 0, 203, 7);
        due("of two pins the last", x.netOf(1, 13), 7);
        due("no third", x.netOf(1, 14), NONE);
        due("no third", x.netOf(1, 15), NONE);
    }

    private static void promise25NoneForOthers() {
        says(25, "its OFFSET or SITE (11 + 2 k). NONE for others.");
        for (int what : new int[] {-1, 4, 5, 9, 14, 22, LEAST, MOST}) {
            tells(NONE, "what " + what, Checks::chip, x -> x.netOf(0, what));
        }
        for (int net : new int[] {-1, 2, 16, LEAST, MOST}) {
            tells(NONE, "net " + net, Checks::chip, x -> x.netOf(net, 0));
        }
        due("of none", new CellRows(1, 8).netOf(0, 0), NONE);
    }

    // ---- promise 26

    private static void bins() {
        promise26HowManyBins();
        promise26WhatIsLeft();
        promise26Supply();
        promise26Need();
        promise26Over();
        promise26Demand();
        promise26NoneForOthers();
    }

    private static void promise26HowManyBins() {
        says(26, "BINS of 8 SITES and 2 ROWS (at the right, at the top what is left), numbered row by row from the lowest left.");
        int[][] bins = {{1, 8, 1}, {1, 9, 2}, {2, 8, 1}, {3, 8, 2}, {2, 15, 2}, {2, 16, 2}, {2, 17, 3}, {8, 32, 16},
            {7, 31, 16}, {7, 25, 16}, {7, 24, 12}};
        for (int[] b : bins) {
            CellRows x = new CellRows(b[0], b[1]);
            due("bins of " + b[0] + " rows, " + b[1] + " sites", x.count(6), b[2]);
            due("the last", x.bin(b[2] - 1, 0) > 0, true);
            due("none behind it", x.bin(b[2], 0), NONE);
        }
    }

    private static void promise26WhatIsLeft() {
        says(26, "(at the right, at the top what is left)");
        CellRows x = new CellRows(3, 17);
        int[] supplies = {16, 16, 2, 8, 8, 1};
        for (int bin = 0; bin < 6; bin++) {
            due("supply of " + bin, x.bin(bin, 0), 256 * supplies[bin]);
        }
        x.cell(1, NONE);
        x.want(0, 256, 32);
        due("the last site of the top row is the last bin's", x.bin(5, 1), 256);
    }

    private static void promise26Supply() {
        says(26, "SUPPLY: 256 for each of its SITES that is neither BARRED nor a FIXED CELL's.");
        CellRows x = withCells(2, 16, 6, 6, 2);
        x.put(0, 0, 5);
        due("a loose one takes nothing", x.bin(0, 0), 4096);
        x.fix(0, 0, 5);
        due("three sites of a fixed one", x.bin(0, 0), 4096 - 3 * 256);
        due("the other three", x.bin(1, 0), 4096 - 3 * 256);
        x.block(1, 1, 7, 7, 0);
        due("a barred one", x.bin(0, 0), 4096 - 4 * 256);
        x.block(1, 1, 7, 7, 0);
        due("barred twice counts once", x.bin(0, 0), 4096 - 4 * 256);
        x.block(1, 1, 0, 15, 0);
        x.fix(2, 0, 0);
        due("few are left", x.bin(0, 0), 3 * 256);
        CellRows full = new CellRows(1, 8);
        full.block(0, 0, 0, 7, 0);
        due("none is left", full.bin(0, 0), 0);
        CellRows fenced = new CellRows(1, 8);
        fenced.fence(0, 0, 0, 7);
        due("a fence takes nothing", fenced.bin(0, 0), 8 * 256);
    }

    private static void promise26Need() {
        says(26, "NEED: how much of the rectangles of LOOSE CELLS at their WANTS (16 times WIDTH, 16 high) is in it");
        CellRows x = withCells(4, 16, 1);
        int[][] needs = {{112, 16, 256, 0, 0, 0}, {113, 16, 240, 16, 0, 0}, {112, 17, 240, 0, 16, 0},
            {113, 17, 15 * 15, 15, 15, 1}, {127, 31, 1, 15, 15, 225}, {128, 32, 0, 0, 0, 256}};
        for (int[] n : needs) {
            x.want(0, n[0], n[1]);
            for (int bin = 0; bin < 4; bin++) {
                due("need of " + bin + " by " + n[0] + ", " + n[1], x.bin(bin, 1), n[2 + bin]);
            }
        }
        x.put(0, 0, 0);
        due("by its want, not by its spot", x.bin(3, 1), 256);
        x.fix(0, 3, 15);
        due("a fixed one needs nothing", x.bin(3, 1), 0);
        CellRows y = withCells(1, 8, 6, 6, 6);
        due("three of six", y.bin(0, 1), 18 * 256);
    }

    private static void promise26Over() {
        says(26, "OVER: NEED less SUPPLY times TARGET by 100, 0 at least.");
        CellRows x = withCells(1, 9, 1);
        x.want(0, 117, 0);
        due("need", x.bin(1, 1), 80);
        x.terms(1, 31);
        due("256 times 31 by 100 is 79", x.bin(1, 2), 1);
        x.terms(1, 32);
        due("256 times 32 by 100 is 81", x.bin(1, 2), 0);
        CellRows y = withCells(1, 8, 4);
        y.terms(1, 50);
        due("just the half", y.bin(0, 2), 0);
        y.terms(1, 49);
        due("2048 times 49 by 100 is 1003", y.bin(0, 2), 21);
        y.terms(1, 100);
        y.block(0, 0, 0, 7, 0);
        due("no supply: all is over", y.bin(0, 2), 1024);
        due("nothing is needed", new CellRows(1, 8).bin(0, 2), 0);
    }

    private static void promise26Demand() {
        says(26, "meets it: BINS from that of least x and y to that of greatest ones.");
        CellRows x = withCells(4, 16, 1);
        net(x, 3, 0, 0, 200, 0);
        int[][] demands = {{119, 23, 3, 0, 0, 0}, {120, 23, 3, 3, 0, 0}, {119, 24, 3, 0, 3, 0}, {120, 24, 3, 3, 3, 3}};
        for (int[] d : demands) {
            x.want(0, d[0], d[1]);
            for (int bin = 0; bin < 4; bin++) {
                due("demand of " + bin + " by " + d[0] + ", " + d[1], x.bin(bin, 3), d[2 + bin]);
            }
        }
        x.put(0, 0, 7);
        due("by its spot", x.bin(3, 3), 0);
        for (int i = 0; i < 15; i++) {
            net(x, 9, 203, 15, 203, 15);
        }
        due("sixteen nets", x.bin(3, 3), 135);
        due("the others are not met", x.bin(2, 3), 0);
        CellRows most = new CellRows(8, 32);
        net(most, 9, 200, 0, 207, 31);
        for (int bin = 0; bin < 16; bin++) {
            due("from corner to corner", most.bin(bin, 3), 9);
        }
    }

    private static void promise26NoneForOthers() {
        says(26, "Of a BIN: SUPPLY (what 0), NEED (1), OVER (2), DEMAND (3). NONE for others.");
        for (int what : new int[] {-1, 4, LEAST, MOST}) {
            tells(NONE, "what " + what, Checks::chip, x -> x.bin(0, what));
        }
        for (int bin : new int[] {-1, 2, 16, LEAST, MOST}) {
            for (int what = 0; what <= 3; what++) {
                int asked = what;
                tells(NONE, "bin " + bin + ", what " + what, Checks::chip, x -> x.bin(bin, asked));
            }
        }
    }

    // ---- promise 27

    private static void measures() {
        promise27Nothing();
        promise27Wire();
        promise27SmoothOverflowCost();
        promise27Moves();
        promise27HowManyHaveNoSpot();
        promise27GreatestDemand();
        promise27AboveLoad();
        promise27NoneForOthers();
    }

    private static void promise27Nothing() {
        says(27, "WIRE (what 0), SMOOTH (1), OVERFLOW (2), COST (3)");
        for (int what = 0; what <= 8; what++) {
            int asked = what;
            tells(0, "what " + what + " of an empty chip", () -> new CellRows(8, 32), x -> x.measure(asked));
        }
    }

    private static void promise27Wire() {
        says(27, "WIRE: all SPANS, each times WEIGHT, together.");
        CellRows x = new CellRows(8, 32);
        x.terms(4, 8);
        for (int nets = 1; nets <= 16; nets++) {
            net(x, 9, 200, 0, 207, 31);
            due(nets + " nets", x.measure(0), nets * 9 * (496 + 8 * 112));
        }
        due("by their smooth spans, too", x.measure(1), 16 * x.netOf(0, 3) * 9);
    }

    private static void promise27SmoothOverflowCost() {
        says(27, "COST: 16 times SMOOTH and PRESSURE times OVERFLOW.");
        CellRows x = withCells(1, 16, 4, 4);
        x.terms(1, 50);
        x.want(0, 64, 0);
        x.want(1, 64, 0);
        net(x, 2, 0, 0, 1, 1);
        // 2048 needed, 1024 to be had; the pins are 16 far: 6
        due("smooth", x.measure(1), 2 * 6);
        due("overflow", x.measure(2), 1024);
        for (int pressure : new int[] {0, 1, 4, 99}) {
            x.terms(2, pressure);
            due("cost", x.measure(3), 16 * 12 + pressure * 1024);
        }
        says(27, "OVERFLOW: all OVERS.");
        x.terms(1, 10);
        x.want(1, 128, 0);
        due("of both bins", x.measure(2), 2 * (1024 - 204));
    }

    private static void promise27Moves() {
        says(27, "MOVES of all CELLS with SPOTS together (4)");
        CellRows x = withCells(2, 16, 1, 2, 3);
        due("none has one", x.measure(4), 0);
        x.want(0, 0, 0);
        x.want(1, 0, 0);
        x.put(0, 0, 1);
        x.put(1, 1, 0);
        due("two have one", x.measure(4), 16 + 2 * 64);
        x.fix(2, 0, 5);
        due("a fixed one brings nothing", x.measure(4), 16 + 2 * 64);
    }

    private static void promise27HowManyHaveNoSpot() {
        says(27, "how many have no SPOT (5)");
        CellRows x = new CellRows(1, 20);
        for (int cell = 0; cell < 20; cell++) {
            x.cell(1, NONE);
            due("none has one", x.measure(5), cell + 1);
        }
        for (int cell = 0; cell < 20; cell++) {
            x.put(cell, 0, cell);
            due("those behind it", x.measure(5), 19 - cell);
        }
    }

    private static void promise27GreatestDemand() {
        says(27, "the greatest DEMAND (6), the first BIN with it (7)");
        CellRows x = new CellRows(4, 16);
        due("no nets", x.measure(6), 0);
        due("no nets: the first of all", x.measure(7), 0);
        net(x, 2, 203, 15, 203, 15);
        due("the last bin", x.measure(7), 3);
        net(x, 2, 200, 15, 200, 15);
        due("of like ones the first", x.measure(7), 1);
        due("how much", x.measure(6), 2);
        net(x, 1, 202, 8, 202, 8);
        due("more", x.measure(6), 3);
        due("the greater one", x.measure(7), 3);
    }

    private static void promise27AboveLoad() {
        says(27, "how many BINS have DEMAND above LOAD (8)");
        CellRows x = new CellRows(4, 16);
        net(x, 6, 200, 0, 203, 15);
        due("just the load", x.measure(8), 0);
        net(x, 1, 203, 15, 203, 15);
        due("one above it", x.measure(8), 1);
        x.terms(5, 1);
        due("the least load", x.measure(8), 4);
        x.terms(5, 99);
        for (int i = 0; i < 10; i++) {
            net(x, 9, 200, 0, 200, 0);
        }
        due("96", x.measure(8), 0);
        net(x, 3, 200, 0, 200, 0);
        due("just 99", x.measure(8), 0);
        net(x, 1, 200, 0, 200, 0);
        due("100", x.measure(8), 1);
    }

    private static void promise27NoneForOthers() {
        says(27, "how many BINS have DEMAND above LOAD (8). NONE for others.");
        for (int what : new int[] {-1, 9, 10, LEAST, MOST}) {
            tells(NONE, "what " + what, Checks::chip, x -> x.measure(what));
        }
    }

    // ---- promise 28

    private static void lawful() {
        promise28ItselfAside();
        promise28FalseForOthers();
        promise28EachSite();
        promise28AllSpotsAlwaysAre();
    }

    private static int asked(boolean answer) {
        return answer ? 1 : 0;
    }

    private static void promise28ItselfAside() {
        says(28, "Whether a SPOT is LAWFUL for a CELL, itself aside (also if it is FIXED).");
        tells(1, "where it lies", Checks::chip, x -> asked(x.lawful(0, 0, 0)));
        tells(1, "over its own site", Checks::chip, x -> asked(x.lawful(0, 0, 1)));
        tells(1, "where it is fixed", Checks::chip, x -> asked(x.lawful(1, 0, 4)));
        tells(1, "over its own site, fixed", Checks::chip, x -> asked(x.lawful(1, 0, 6)));
        tells(1, "elsewhere, fixed", Checks::chip, x -> asked(x.lawful(1, 1, 2)));
        tells(0, "on another one, fixed", Checks::chip, x -> asked(x.lawful(1, 0, 1)));
    }

    private static void promise28FalseForOthers() {
        says(28, "False for others.");
        for (int row : new int[] {-1, 2, LEAST, MOST}) {
            tells(0, "row " + row, Checks::chip, x -> asked(x.lawful(0, row, 8)));
        }
        for (int site : new int[] {-1, 15, 16, LEAST, MOST}) {
            tells(0, "site " + site, Checks::chip, x -> asked(x.lawful(0, 0, site)));
        }
        for (int cell : new int[] {-1, 4, 20, LEAST, MOST}) {
            tells(0, "cell " + cell, Checks::chip, x -> asked(x.lawful(cell, 0, 8)));
        }
    }

    private static void promise28EachSite() {
        says(28, "A SPOT is LAWFUL for a CELL, if all its SITES are in the chip, none BARRED, all in its FENCE (of NONE: "
                + "none in any FENCE), none is another CELL's.");
        CellRows x = chip();
        for (int row = 0; row < 2; row++) {
            for (int site = 0; site < 15; site++) {
                boolean due0 = row == 0 ? site <= 2 || site >= 7 && site <= 10 : site >= 2 && site <= 10;
                due("cell 0 at " + row + ", " + site, x.lawful(0, row, site), due0);
                due("cell 2 at " + row + ", " + site, x.lawful(2, row, site), site >= 12);
            }
        }
    }

    private static void promise28AllSpotsAlwaysAre() {
        says(28, "All SPOTS always are LAWFUL.");
        Act[] acts = {x -> x.block(0, 0, 1, 1, 0), x -> x.fence(0, 0, 0, 1), x -> x.fix(3, 0, 1), x -> x.free(1),
            x -> x.put(3, 1, 2), CellRows::legal, x -> x.windows(2), CellRows::swaps, CellRows::hops, CellRows::sorts,
            x -> x.shake(3, 60, 999), x -> x.start(9), x -> x.spread(3), CellRows::undo};
        for (Act first : acts) {
            for (Act second : acts) {
                CellRows x = chip();
                first.on(x);
                second.on(x);
                for (int cell = 0; cell < 4; cell++) {
                    int row = x.cellOf(cell, 5);
                    due("each spot", row == NONE || x.lawful(cell, row, x.cellOf(cell, 6)), true);
                }
            }
        }
    }

    // ---- promise 29

    private static void runs() {
        promise29AsManyAsCanBe();
        promise29NotBarredNotFixed();
        promise29NoneForOthers();
    }

    private static CellRows everySecondFixed() {
        CellRows x = new CellRows(1, 32);
        for (int cell = 0; cell < 16; cell++) {
            x.cell(1, NONE);
            x.fix(cell, 0, 2 * cell + 1);
        }
        return x;
    }

    private static void promise29AsManyAsCanBe() {
        says(29, "RUNS of a ROW for a FENCE (or NONE): SITES side by side, as many as can be");
        due("an empty row is one", new CellRows(1, 32).runs(0, NONE), 1);
        CellRows x = everySecondFixed();
        due("sixteen of one site each", x.runs(0, NONE), 16);
        due("the first", x.run(0, NONE, 0, 0), 0);
        due("the last", x.run(0, NONE, 15, 0), 30);
        due("its sites", x.run(0, NONE, 15, 1), 1);
        due("no more", x.run(0, NONE, 16, 0), NONE);
        x.free(7);
        due("loose ones do not part them", x.runs(0, NONE), 15);
        due("three sites", x.run(0, NONE, 7, 1), 3);
    }

    private static void promise29NotBarredNotFixed() {
        says(29, "that are not BARRED, not a FIXED CELL's, in that FENCE (NONE: in no FENCE); from the left.");
        CellRows x = new CellRows(2, 16);
        x.fence(0, 0, 4, 11);
        x.block(0, 0, 7, 7, 0);
        due("on both sides of the fence", x.runs(0, NONE), 2);
        due("in the fence on both sides of the block", x.runs(0, 0), 2);
        due("from the left", x.run(0, 0, 0, 0), 4);
        due("from the left", x.run(0, 0, 1, 0), 8);
        due("none of the fence in row 1", x.runs(1, 0), 0);
        x.block(0, 0, 0, 15, 0);
        due("no site, no run", x.runs(0, NONE), 0);
        due("no site, no run", x.runs(0, 0), 0);
        due("row 1 is whole", x.runs(1, NONE), 1);
    }

    private static void promise29NoneForOthers() {
        says(29, "How many RUNS a ROW has for a FENCE (NONE is one). NONE for others.");
        for (int row : new int[] {-1, 2, 8, LEAST, MOST}) {
            tells(NONE, "row " + row, Checks::chip, x -> x.runs(row, NONE));
        }
        for (int fence : new int[] {-2, 1, 3, LEAST, MOST}) {
            tells(NONE, "fence " + fence, Checks::chip, x -> x.runs(0, fence));
        }
        tells(2, "of none", Checks::chip, x -> x.runs(0, NONE));
        tells(1, "of the fence", Checks::chip, x -> x.runs(1, 0));
    }

    // ---- promise 30

    private static void run() {
        promise30FirstAndLength();
        promise30LyingAndFree();
        promise30Least();
        promise30FromTheLeft();
        promise30NoneForOthers();
    }

    private static void promise30FirstAndLength() {
        says(30, "its first SITE (what 0), how many SITES (1)");
        tells(0, "the first of row 0", Checks::chip, x -> x.run(0, NONE, 0, 0));
        tells(4, "up to the fixed cell", Checks::chip, x -> x.run(0, NONE, 0, 1));
        tells(7, "behind the fixed cell", Checks::chip, x -> x.run(0, NONE, 1, 0));
        tells(5, "up to the fence", Checks::chip, x -> x.run(0, NONE, 1, 1));
        tells(2, "behind the barred ones", Checks::chip, x -> x.run(1, NONE, 0, 0));
        tells(10, "up to the fence", Checks::chip, x -> x.run(1, NONE, 0, 1));
        tells(12, "of the fence", Checks::chip, x -> x.run(1, 0, 0, 0));
        tells(4, "of the fence", Checks::chip, x -> x.run(1, 0, 0, 1));
    }

    private static CellRows fullRow() {
        CellRows x = new CellRows(1, 20);
        for (int cell = 0; cell < 20; cell++) {
            x.cell(1, NONE);
            x.put(cell, 0, 19 - cell);
        }
        return x;
    }

    private static void promise30LyingAndFree() {
        says(30, "how many LOOSE CELLS lie in it (2), how many SITES are free (3)");
        tells(1, "one lies", Checks::chip, x -> x.run(0, NONE, 0, 2));
        tells(2, "two are free", Checks::chip, x -> x.run(0, NONE, 0, 3));
        tells(0, "none lies", Checks::chip, x -> x.run(0, NONE, 1, 2));
        tells(5, "all are free", Checks::chip, x -> x.run(0, NONE, 1, 3));
        CellRows full = fullRow();
        due("twenty lie", full.run(0, NONE, 0, 2), 20);
        due("none is free", full.run(0, NONE, 0, 3), 0);
    }

    private static void promise30Least() {
        says(30, "LEAST of those that lie in it, in the order in which they lie (4)");
        tells(0, "of none", Checks::chip, x -> x.run(0, NONE, 1, 4));
        CellRows x = withCells(1, 8, 2, 1);
        x.want(0, 0, 0);
        x.want(1, 112, 0);
        x.put(1, 0, 2);
        x.put(0, 0, 5);
        // 1 ahead of 0: 1 at s, 0 at s + 1: 112 - 16 s and 2 * 16 * (s + 1): the least is s 0
        due("in the order in which they lie", x.run(0, NONE, 0, 4), 112 + 32);
        x.take(1);
        due("one alone comes to its want", x.run(0, NONE, 0, 4), 0);
        // 20 sites, all full: each as far from 152 as it must
        due("just room", fullRow().run(0, NONE, 0, 4), 1600);
        CellRows y = withCells(1, 8, 6);
        y.block(0, 0, 0, 0, 0);
        y.put(0, 0, 1);
        y.want(0, 0, 0);
        due("not out of the run", y.run(0, NONE, 0, 4), 6 * 16);
    }

    private static void promise30FromTheLeft() {
        says(30, "the k-th of them from the left (10 + k)");
        CellRows x = fullRow();
        for (int k = 0; k < 20; k++) {
            due("the " + k + "th", x.run(0, NONE, 0, 10 + k), 19 - k);
        }
        due("no 20th", x.run(0, NONE, 0, 30), NONE);
        tells(NONE, "no second", Checks::chip, one -> one.run(0, NONE, 0, 11));
        tells(NONE, "no first", Checks::chip, one -> one.run(0, NONE, 1, 10));
        tells(NONE, "fixed ones do not lie in it", Checks::chip, one -> one.run(0, NONE, 0, 11));
    }

    private static void promise30NoneForOthers() {
        says(30, "the k-th of them from the left (10 + k). NONE for others.");
        for (int what : new int[] {-1, 5, 6, 9, 30, LEAST, MOST}) {
            tells(NONE, "what " + what, Checks::chip, x -> x.run(0, NONE, 0, what));
        }
        for (int i : new int[] {-1, 2, 32, LEAST, MOST}) {
            tells(NONE, "run " + i, Checks::chip, x -> x.run(0, NONE, i, 0));
        }
        for (int row : new int[] {-1, 2, LEAST, MOST}) {
            tells(NONE, "row " + row, Checks::chip, x -> x.run(row, NONE, 0, 0));
        }
        for (int fence : new int[] {-2, 1, LEAST, MOST}) {
            tells(NONE, "fence " + fence, Checks::chip, x -> x.run(0, fence, 0, 0));
        }
        CellRows full = new CellRows(1, 8);
        full.block(0, 0, 0, 7, 0);
        due("no run at all", full.run(0, NONE, 0, 0), NONE);
    }

    // ---- promise 31

    private static void would() {
        promise31WhateverIsThere();
        promise31AllItsSitesInTheChip();
        promise31NoneForOthers();
    }

    private static void promise31WhateverIsThere() {
        says(31, "What WIRE would be, were a CELL's SPOT there (whatever is there; all its SITES in the chip).");
        // net 0: from 24 of cell 0 to 200 of cell 2, twice; net 1: pad 136, 24; cell 3 at 128, 16; cell 1 at 104, 8
        int other = 32 + 4 * 16;
        tells(2 * 176 + other, "where it is", Checks::chip, x -> x.would(0, 0, 0));
        tells(2 * 96 + other, "on a fixed one", Checks::chip, x -> x.would(0, 0, 5));
        tells(2 * (176 + 64) + other, "where it is barred", Checks::chip, x -> x.would(0, 1, 0));
        tells(2 * 16 + other, "in a fence, on a loose one", Checks::chip, x -> x.would(0, 0, 12));
        // its pin is at 40, 24 then
        tells(2 * 176 + 96 + 4 * 8, "a fixed one", Checks::chip, x -> x.would(1, 1, 0));
        tells(2 * 176 + 32 + 64, "one without a spot, in the box", Checks::chip, x -> x.would(3, 0, 8));
    }

    private static void promise31AllItsSitesInTheChip() {
        says(31, "all its SITES in the chip). NONE for others.");
        for (int width = 1; width <= 6; width++) {
            CellRows x = withCells(2, 8, width);
            net(x, 1, 0, 0, 200, 0);
            due("the last", x.would(0, 0, 8 - width), 16 * (8 - width));
            due("one behind it", x.would(0, 0, 9 - width), NONE);
            due("the first", x.would(0, 1, 0), 64);
            due("one ahead of it", x.would(0, 1, -1), NONE);
        }
    }

    private static void promise31NoneForOthers() {
        says(31, "NONE for others.");
        for (int row : new int[] {-1, 2, LEAST, MOST}) {
            tells(NONE, "row " + row, Checks::chip, x -> x.would(0, row, 0));
        }
        for (int site : new int[] {-1, 15, 16, LEAST, MOST}) {
            tells(NONE, "site " + site, Checks::chip, x -> x.would(0, 0, site));
        }
        for (int cell : new int[] {-1, 4, 20, LEAST, MOST}) {
            tells(NONE, "cell " + cell, Checks::chip, x -> x.would(cell, 0, 0));
        }
    }

    // ---- promise 32

    private static void best() {
        promise32FirstAndLast();
        promise32InTheChip();
        promise32NoneWithoutASpot();
        promise32NoneForOthers();
    }

    private static void promise32FirstAndLast() {
        says(32, "the first SITE (what 0), the last one (1) by which WIRE is least, that WIRE (2)");
        CellRows x = withCells(2, 16, 1);
        x.put(0, 1, 15);
        net(x, 1, 0, 0, 200, 3, 200, 9);
        due("the first of the box", x.best(0, 0), 3);
        due("the last of the box", x.best(0, 1), 9);
        due("wire", x.best(0, 2), 96 + 64);
        net(x, 1, 0, 0, 200, 5);
        due("one alone", x.best(0, 0), 5);
        due("one alone", x.best(0, 1), 5);
        due("wire", x.best(0, 2), 96 + 64 + 64);
        spotDue(x, 0, 1, 15);
        CellRows none = withCells(1, 8, 2);
        none.put(0, 0, 3);
        due("without nets from the first", none.best(0, 0), 0);
        due("to the last", none.best(0, 1), 6);
        due("no wire", none.best(0, 2), 0);
    }

    private static void promise32InTheChip() {
        says(32, "In the ROW of its SPOT, whatever lies there, all its SITES in the chip");
        CellRows x = withCells(1, 8, 6, 1);
        x.put(0, 0, 0);
        net(x, 1, 0, 0, 200, 7);
        due("as far as its width lets it", x.best(0, 0), 2);
        due("as far as its width lets it", x.best(0, 1), 2);
        due("wire", x.best(0, 2), 80);
        x.put(1, 0, 7);
        x.block(0, 0, 6, 6, 0);
        due("whatever lies there", x.best(0, 0), 2);
        x.drop(0);
        net(x, 1, 0, 5, 200, 0);
        due("to the left", x.best(0, 1), 0);
        due("wire", x.best(0, 2), 80);
        tells(11, "a fixed one, too", () -> {
            CellRows y = withCells(2, 16, 2);
            y.fix(0, 1, 3);
            net(y, 1, 0, 0, 201, 11);
            return y;
        }, y -> y.best(0, 0));
    }

    private static void promise32NoneWithoutASpot() {
        says(32, "NONE without a SPOT, for others.");
        for (int what = 0; what <= 2; what++) {
            int asked = what;
            tells(NONE, "what " + what, Checks::chip, x -> x.best(3, asked));
        }
    }

    private static void promise32NoneForOthers() {
        says(32, "for others.");
        for (int what : new int[] {-1, 3, LEAST, MOST}) {
            tells(NONE, "what " + what, Checks::chip, x -> x.best(0, what));
        }
        for (int cell : new int[] {-1, 4, 20, LEAST, MOST}) {
            tells(NONE, "cell " + cell, Checks::chip, x -> x.best(cell, 0));
        }
    }

    // ---- promise 33

    private static void lawfully() {
        promise33WhatLegalWouldTell();
        promise33WireThen();
        promise33NoRoom();
        promise33NoneForOthers();
    }

    private static void promise33WhatLegalWouldTell() {
        says(33, "On paper: what legal() would tell (what 0)");
        int due = chip().legal();
        tells(due, "as legal() tells", Checks::chip, x -> x.lawfully(0));
        tells(0, "of no cells", () -> new CellRows(1, 8), x -> x.lawfully(0));
        tells(192, "just room", () -> withCells(1, 8, 6, 2), x -> x.lawfully(0));
    }

    private static void promise33WireThen() {
        says(33, "WIRE then (1; NONE, if there is no room)");
        CellRows made = chip();
        made.legal();
        int due = made.measure(0);
        tells(due, "as measure() tells then", Checks::chip, x -> x.lawfully(1));
        tells(0, "of no cells", () -> new CellRows(1, 8), x -> x.lawfully(1));
        Scene full = () -> {
            CellRows x = chip();
            x.cell(6, 0);
            return x;
        };
        tells(NONE, "no room", full, x -> x.lawfully(1));
    }

    private static void promise33NoRoom() {
        says(33, "what legal() would tell (what 0)");
        tells(-5, "no room for one more", () -> withCells(1, 8, 6, 2, 1), x -> x.lawfully(0));
        tells(-5, "no room at all", () -> {
            CellRows x = withCells(1, 8, 1);
            x.block(0, 0, 0, 7, 0);
            return x;
        }, x -> x.lawfully(0));
    }

    private static void promise33NoneForOthers() {
        says(33, "NONE, if there is no room). NONE for others.");
        for (int what : new int[] {-1, 2, LEAST, MOST}) {
            tells(NONE, "what " + what, Checks::chip, x -> x.lawfully(what));
        }
    }

    // ---- promise 34

    private static void fillers() {
        promise34EachGap();
        promise34EachRun();
        promise34NoneForOthers();
    }

    private static void promise34EachGap() {
        says(34, "is filled from the left with those of 4, as many as go, then of 2, then of 1");
        for (int gap = 8; gap <= 32; gap++) {
            CellRows x = new CellRows(1, gap);
            due("4 in " + gap, x.fillers(4), gap / 4);
            due("2 in " + gap, x.fillers(2), gap % 4 >= 2 ? 1 : 0);
            due("1 in " + gap, x.fillers(1), gap % 2);
        }
        int[][] dues = {{0, 0, 0}, {0, 0, 1}, {0, 1, 0}, {0, 1, 1}, {1, 0, 0}, {1, 0, 1}, {1, 1, 0}, {1, 1, 1}};
        for (int gap = 0; gap < 8; gap++) {
            CellRows x = new CellRows(1, 8);
            x.block(0, 0, gap, 7, 0);
            due("4 in " + gap, x.fillers(4), dues[gap][0]);
            due("2 in " + gap, x.fillers(2), dues[gap][1]);
            due("1 in " + gap, x.fillers(1), dues[gap][2]);
        }
    }

    private static void promise34EachRun() {
        says(34, "each gap (free SITES side by side, as many as can be, in a RUN)");
        CellRows x = new CellRows(2, 8);
        due("both rows", x.fillers(4), 4);
        x.cell(2, NONE);
        x.put(0, 0, 3);
        // 3, 3 and 8
        due("beside a loose one: 4", x.fillers(4), 2);
        due("beside a loose one: 2", x.fillers(2), 2);
        due("beside a loose one: 1", x.fillers(1), 2);
        x.put(0, 0, 0);
        // 6 and 8
        due("at the end of the run: 4", x.fillers(4), 3);
        due("at the end of the run: 2", x.fillers(2), 1);
        x.fix(0, 0, 3);
        due("beside a fixed one", x.fillers(1), 2);
        x.fence(1, 1, 3, 7);
        // 3, 3, and 3 and 5, not 8
        due("not across a fence: 4", x.fillers(4), 1);
        due("not across a fence: 2", x.fillers(2), 3);
        due("not across a fence: 1", x.fillers(1), 4);
        due("sixteen gaps of one", everySecondFixed().fillers(1), 16);
        due("88 runs: 4", EdgesOfPasses.manyRuns().fillers(4), 8 * 4);
        due("88 runs: 2", EdgesOfPasses.manyRuns().fillers(2), 8 * 4);
        due("88 runs: 1", EdgesOfPasses.manyRuns().fillers(1), 8 * 4);
        due("a full row", fullRow().fillers(1), 0);
    }

    private static void promise34NoneForOthers() {
        says(34, "how many of that width in all RUNS. NONE for others.");
        for (int width : new int[] {0, 3, 5, 8, -1, -4, LEAST, MOST}) {
            tells(NONE, "width " + width, Checks::chip, x -> x.fillers(width));
        }
        // row 0: 2 and 5, and 2 in the fence; row 1: 10, and 4 in the fence
        tells(1 + 2 + 1, "width 4", Checks::chip, x -> x.fillers(4));
        tells(1 + 1 + 1, "width 2", Checks::chip, x -> x.fillers(2));
        tells(1, "width 1", Checks::chip, x -> x.fillers(1));
    }

    // ---- promise 35

    private static void counts() {
        promise35Whats();
        promise35HowManyRefused();
        promise35Terms();
        promise35NoneForOthers();
    }

    private static void promise35Whats() {
        says(35, "0 ROWS, 1 SITES, 2 BLOCKS, 3 FENCES, 4 CELLS, 5 NETS, 6 BINS, 7 how many can be undone, 8 bytes of the TAPE");
        int[] dues = {2, 16, 1, 1, 4, 2, 2, 11, 4};
        for (int what = 0; what < dues.length; what++) {
            int asked = what;
            tells(dues[what], "what " + what, Checks::chip, x -> x.count(asked));
        }
    }

    private static void promise35HowManyRefused() {
        says(35, "9 .. 13 how many calls were REFUSED by -1, -2, -4, -5, -6");
        CellRows x = chip();
        x.feed(0, 0, 0, 0, 0);
        x.feed(0, 0, 0, 0, 0);
        x.feed(0, 0, 0, 0, 0);
        x.feed(0, 0, 0, 0, 0);
        due("too many bytes", x.feed(0, 0, 0, 0, 0), NONE);
        x.end(-1);
        x.cellOf(9, 9);
        x.lawful(9, 9, 9);
        for (int what = 9; what <= 13; what++) {
            due("what is not an act is not REFUSED", x.count(what), 0);
        }
        x.start(0);
        x.terms(0, 0);
        x.drop(9);
        x.free(0);
        x.take(3);
        x.put(1, 0, 0);
        x.net(1);
        x.cell(6, 0);
        x.legal();
        x.legal();
        int[] dues = {2, 1, 3, 2, 1};
        for (int i = 0; i < 5; i++) {
            due("count " + (9 + i), x.count(9 + i), dues[i]);
        }
        x.undo();
        for (int i = 0; i < 5; i++) {
            due("undo() leaves count " + (9 + i), x.count(9 + i), dues[i]);
        }
    }

    private static void promise35Terms() {
        says(35, "14 .. 19 TERMS 0 .. 5");
        CellRows x = new CellRows(1, 8);
        int[] firsts = {16, 80, 4, 16, 4, 6};
        for (int term = 0; term < 6; term++) {
            due("at first", x.count(14 + term), firsts[term]);
        }
        for (int term = 0; term < 6; term++) {
            x.terms(term, term == 1 ? 11 : term + 1);
        }
        int[] thens = {1, 11, 3, 4, 5, 6};
        for (int term = 0; term < 6; term++) {
            due("then", x.count(14 + term), thens[term]);
        }
    }

    private static void promise35NoneForOthers() {
        says(35, "14 .. 19 TERMS 0 .. 5. NONE for others.");
        for (int what : new int[] {-1, 20, 21, LEAST, MOST}) {
            tells(NONE, "what " + what, Checks::chip, x -> x.count(what));
        }
    }

    // ---- promise 36

    private static void statuses() {
        promise36EachCall();
        promise36AheadOfAny();
        promise36OtherCallsLeaveIt();
        promise36RefusedChangesNothing();
    }

    private static void promise36EachCall() {
        says(36, "What the latest call of terms, block, fence, cell, net, drop, want, fix, free, put, take, start, spread, "
                + "legal, windows, swaps, hops, sorts, shake, undo was REFUSED by; 0 if it was not");
        Act[] wrongs = {x -> x.terms(6, 1), x -> x.block(0, 0, 4, 4, 0), x -> x.fence(0, 0, 12, 12), x -> x.cell(1, 9),
            x -> x.net(0), x -> x.drop(2), x -> x.want(1, 0, 0), x -> x.fix(9, 0, 0), x -> x.free(0), x -> x.put(1, 0, 0),
            x -> x.take(3), x -> x.start(0), x -> x.spread(0), x -> x.windows(0), x -> x.shake(0, 0, 0)};
        int[] kinds = {-1, -4, -4, -2, -1, -2, -4, -2, -4, -4, -4, -1, -1, -1, -1};
        Act[] rights = {x -> x.terms(0, 1), x -> x.block(1, 1, 8, 8, 0), x -> x.fence(1, 1, 9, 9), x -> x.cell(1, NONE),
            x -> x.net(1), x -> x.drop(0), x -> x.want(3, 0, 0), x -> x.fix(3, 0, 8), x -> x.free(1), x -> x.put(3, 1, 6),
            x -> x.take(0), x -> x.start(1), x -> x.spread(1), CellRows::legal, x -> x.windows(2), CellRows::swaps,
            CellRows::hops, CellRows::sorts, x -> x.shake(0, 1, 0), CellRows::undo};
        for (int i = 0; i < wrongs.length; i++) {
            for (Act right : rights) {
                CellRows x = chip();
                due("answer", wrongs[i].on(x), kinds[i]);
                due("status", x.status(), kinds[i]);
                due("status, asked again", x.status(), kinds[i]);
                due("then one that is not refused", right.on(x) >= 0, true);
                due("status", x.status(), 0);
            }
        }
        CellRows full = withCells(1, 8, 6, 3);
        full.legal();
        due("legal()", full.status(), -5);
        full.net(1);
        due("net()", full.status(), -6);
        full.undo();
        full.undo();
        due("undo()", full.status(), 0);
        full.undo();
        due("undo() of none", full.status(), -4);
        full.swaps();
        due("swaps()", full.status(), 0);
    }

    private static void promise36AheadOfAny() {
        says(36, "or ahead of any.");
        CellRows x = new CellRows(1, 8);
        due("at first", x.status(), 0);
        x.feed(0, 0, 0, 0, 0);
        x.end(99);
        x.cellOf(0, 0);
        due("ahead of any still", x.status(), 0);
    }

    private static void promise36OtherCallsLeaveIt() {
        says(36, "What the latest call of");
        Act[] others = {x -> x.feed(0, 0, 0, 0, 0), x -> x.end(0), x -> x.end(-1), x -> x.cellOf(0, 0), x -> x.cellOf(9, 0),
            x -> x.netOf(0, 0), x -> x.netOf(9, 0), x -> x.bin(0, 0), x -> x.bin(9, 0), x -> x.measure(0), x -> x.measure(9),
            x -> asked(x.lawful(0, 0, 0)), x -> asked(x.lawful(9, 9, 9)), x -> x.runs(0, NONE), x -> x.runs(9, 9),
            x -> x.run(0, NONE, 0, 0), x -> x.run(9, 9, 9, 9), x -> x.would(0, 0, 0), x -> x.would(9, 9, 9),
            x -> x.best(0, 0), x -> x.best(9, 9), x -> x.lawfully(0), x -> x.lawfully(9), x -> x.fillers(4),
            x -> x.fillers(9), x -> x.count(0), x -> x.count(99), CellRows::status};
        for (Act other : others) {
            CellRows x = chip();
            x.drop(9);
            other.on(x);
            due("it stays -2", x.status(), -2);
            x.swaps();
            other.on(x);
            due("it stays 0", x.status(), 0);
        }
    }

    private static void promise36RefusedChangesNothing() {
        says(36, "What is REFUSED changes nothing but what is told of it (the TAPE, as told).");
        CellRows x = chip();
        Act[] wrongs = {one -> one.terms(0, 65), one -> one.block(0, 0, 3, 3, 1), one -> one.fence(0, 1, 11, 12),
            one -> one.cell(7, NONE), one -> one.cell(1, 1), one -> one.net(10), one -> one.drop(2),
            one -> one.want(0, 225, 0), one -> one.fix(0, 0, 3), one -> one.free(0), one -> one.put(3, 0, 1),
            one -> one.take(1), one -> one.start(21), one -> one.spread(11), one -> one.windows(5),
            one -> one.shake(0, 61, 0)};
        for (Act wrong : wrongs) {
            due("refused", wrong.on(x) < 0, true);
            due("told", x.status() < 0, true);
        }
        alike("after each of them", x, chip());
        due("all are counted", x.count(9) + x.count(10) + x.count(11), wrongs.length);
        due("the tape is as it was", x.net(1), 2);
    }
}
