/** Promises 15 to 23: each sentence of the document that names an edge has a test of its own, which quotes it. */
final class EdgesOfPasses extends Checks {
    static void all() {
        starts();
        spreads();
        legals();
        windows();
        swaps();
        hops();
        sorts();
        shakes();
        undoes();
    }

    // ---- promise 15

    private static void starts() {
        promise15OneToTwenty();
        promise15RoundByRound();
        promise15AllOthersStay();
        promise15MeanByWeights();
        promise15QuotientsDownwards();
        promise15WereItsPinWhereEachOtherIs();
        promise15HeldInTheChip();
        promise15HeldInItsFence();
        promise15FenceTooNarrow();
        promise15HowManyAreOthers();
    }

    private static void promise15OneToTwenty() {
        says(15, "-1 (n 1 .. 20)");
        for (int n : new int[] {0, 21, -1, LEAST, MOST}) {
            refused(-1, n + " rounds", Checks::chip, x -> x.start(n));
        }
        CellRows x = new CellRows(2, 8);
        due("one, of no cells", x.start(1), 0);
        due("twenty, of no cells", x.start(20), 0);
        due("status", x.status(), 0);
        due("both can be undone", x.count(7), 2);
    }

    /** Cell 0 hangs between a pad at the corner and cell 1, cell 1 on cell 0 alone: both halve their way each round. */
    private static CellRows halving() {
        CellRows x = withCells(1, 8, 1, 1);
        x.want(1, 32, 0);
        net(x, 1, 0, 0, 200, 0);
        net(x, 1, 0, 0, 1, 0);
        return x;
    }

    private static void promise15RoundByRound() {
        says(15, "(all at WANTS as they are by then; sum by sum of WEIGHTS)");
        int[] after = {16, 8, 4, 2, 1, 0, 0};
        for (int n = 1; n <= 7; n++) {
            CellRows x = halving();
            due(n + " rounds", x.start(n), 2);
            wantDue(x, 0, after[n - 1], 0);
            wantDue(x, 1, after[n - 1], 0);
        }
        CellRows x = halving();
        due("twenty rounds", x.start(20), 2);
        wantDue(x, 1, 0, 0);
        due("nothing more", x.start(20), 0);
    }

    private static void promise15AllOthersStay() {
        says(15, "each LOOSE one with a PIN in a NET (all others stay)");
        CellRows x = new CellRows(2, 16);
        x.fence(0, 0, 0, 1);
        x.cell(1, 0);
        x.cell(1, NONE);
        x.cell(1, NONE);
        x.fix(1, 1, 3);
        net(x, 1, 1, 0, 200, 0);
        due("none is loose and in a net", x.start(20), 0);
        wantDue(x, 0, 120, 8);
        wantDue(x, 1, 48, 16);
        wantDue(x, 2, 120, 8);
        net(x, 1, 0, 0, 200, 15);
        due("one of the fence is", x.start(1), 1);
        wantDue(x, 0, 16, 0);
        wantDue(x, 2, 120, 8);
    }

    private static void promise15MeanByWeights() {
        says(15, "x is the mean, by WEIGHTS, of where its corner would be");
        CellRows x = withCells(8, 16, 1);
        net(x, 9, 0, 0, 200, 0);
        net(x, 1, 0, 0, 205, 10);
        due("nine and one", x.start(1), 1);
        wantDue(x, 0, 16, 8);
        x.drop(0);
        net(x, 2, 0, 0, 200, 9);
        // x: (160 + 2 * 144) / 3 = 149.3, y: 80 / 3 = 26.6; quotients go downwards
        due("one and two", x.start(1), 1);
        wantDue(x, 0, 149, 26);
        CellRows y = withCells(8, 16, 1);
        net(y, 1, 0, 0, 200, 0, 200, 0, 201, 1, 207, 15, 202, 3);
        // five others, each once: (0 + 0 + 16 + 240 + 48) / 5 = 60.8, (0 + 0 + 16 + 112 + 32) / 5 = 32
        due("six pins", y.start(1), 1);
        wantDue(y, 0, 60, 32);
    }

    private static void promise15QuotientsDownwards() {
        says(15, "FINE units: 16 a SITE, 16 a ROW; quotients go downwards.");
        for (int weight = 1; weight <= 9; weight++) {
            CellRows x = withCells(8, 32, 1);
            net(x, weight, 0, 0, 200, 0);
            net(x, 10 - weight, 0, 0, 207, 31);
            x.start(1);
            wantDue(x, 0, (10 - weight) * 496 / 10, (10 - weight) * 112 / 10);
        }
    }

    private static void promise15WereItsPinWhereEachOtherIs() {
        says(15, "were its PIN where each other PIN of its NETS is");
        CellRows x = withCells(2, 16, 6, 3);
        x.fix(1, 1, 9);
        net(x, 1, 0, 5, 1, 2);
        // the other pin is at 16 * 11 + 8, its own at 16 * 5 + 8 of the cell
        due("pin on pin", x.start(1), 1);
        wantDue(x, 0, 96, 16);
        due("no span is left", x.netOf(0, 3), 0);
    }

    private static void promise15HeldInTheChip() {
        says(15, "then each to the WANTS that can be");
        CellRows x = withCells(2, 16, 6, 6);
        net(x, 1, 0, 5, 200, 0);
        net(x, 1, 1, 0, 201, 15);
        due("both", x.start(1), 2);
        wantDue(x, 0, 0, 0);
        wantDue(x, 1, 160, 16);
        CellRows y = withCells(1, 8, 6);
        net(y, 1, 0, 5, 200, 5);
        due("just at the left end", y.start(1), 1);
        wantDue(y, 0, 0, 0);
        y.drop(0);
        net(y, 1, 0, 5, 200, 7);
        due("just at the right end", y.start(1), 1);
        wantDue(y, 0, 32, 0);
    }

    private static CellRows fenced(int width, int padRow, int padSite) {
        CellRows x = new CellRows(4, 16);
        x.fence(1, 2, 4, 7);
        x.cell(width, 0);
        net(x, 1, 0, 0, padRow + 200, padSite);
        x.start(1);
        return x;
    }

    private static void promise15HeldInItsFence() {
        says(15, "x from 16 times its first SITE to 16 times the last one at which the CELL ends in it");
        for (int width = 1; width <= 4; width++) {
            wantDue(fenced(width, 0, 0), 0, 64, 16);
            wantDue(fenced(width, 0, 3), 0, 64, 16);
            wantDue(fenced(width, 1, 4), 0, 64, 16);
            wantDue(fenced(width, 2, 8 - width), 0, 16 * (8 - width), 32);
            wantDue(fenced(width, 3, 9 - width), 0, 16 * (8 - width), 32);
            wantDue(fenced(width, 3, 15), 0, 16 * (8 - width), 32);
        }
        says(15, "y from 16 times its lowest ROW to its highest");
        for (int row = 0; row < 4; row++) {
            wantDue(fenced(1, row, 5), 0, 80, 16 * Math.max(1, Math.min(2, row)));
        }
    }

    private static void promise15FenceTooNarrow() {
        says(15, "or just the first, if it's too narrow");
        for (int width = 5; width <= 6; width++) {
            wantDue(fenced(width, 0, 0), 0, 64, 16);
            wantDue(fenced(width, 3, 15), 0, 64, 32);
        }
        CellRows x = new CellRows(1, 8);
        x.fence(0, 0, 6, 7);
        x.cell(3, 0);
        x.cell(2, 0);
        net(x, 1, 0, 0, 1, 0, 200, 7);
        due("at the end of the chip", x.start(1), 2);
        wantDue(x, 0, 80, 0);
        wantDue(x, 1, 96, 0);
    }

    private static void promise15HowManyAreOthers() {
        says(15, "TO START: how many WANTS are others than they were.");
        CellRows x = withCells(2, 16, 1, 1, 1, 1);
        x.want(0, 0, 0);
        x.want(1, 0, 16);
        x.want(2, 16, 0);
        x.want(3, 16, 16);
        for (int cell = 0; cell < 4; cell++) {
            net(x, 1, cell, 0, 200, 0);
        }
        due("one is there, one by x, one by y, one by both", x.start(1), 3);
        due("told by undo", x.undo(), 10);
        wantDue(x, 3, 16, 16);
        wantDue(x, 1, 0, 16);
    }

    // ---- promise 16

    private static void spreads() {
        promise16OneToTen();
        promise16AsItIsOfLikeOnes();
        promise16LeftOfLikeOnes();
        promise16DownOfLikeOnes();
        promise16LeftAheadOfDown();
        promise16EachWay();
        promise16LeastCost();
        promise16NotHeld();
        promise16HeldEach();
        promise16Steps();
        promise16LooseOnes();
    }

    private static void promise16OneToTen() {
        says(16, "-1 (n 1 .. 10)");
        for (int n : new int[] {0, 11, -1, LEAST, MOST}) {
            refused(-1, n + " rounds", Checks::chip, x -> x.spread(n));
        }
        CellRows x = new CellRows(2, 8);
        due("one, of no cells", x.spread(1), 0);
        due("ten, of no cells", x.spread(10), 0);
        CellRows y = withCells(1, 32, 1);
        y.terms(3, 1);
        y.terms(0, 1);
        y.want(0, 248, 0);
        net(y, 1, 0, 0, 200, 0);
        y.spread(1);
        wantDue(y, 0, 247, 0);
        y.spread(10);
        wantDue(y, 0, 237, 0);
        due("told by undo", y.undo(), 11);
        wantDue(y, 0, 247, 0);
    }

    private static void promise16AsItIsOfLikeOnes() {
        says(16, "the one with the least COST, the first of like ones");
        CellRows x = withCells(2, 16, 2);
        due("nothing costs", x.spread(10), 0);
        wantDue(x, 0, 112, 8);
        x.terms(1, 10);
        x.block(0, 1, 0, 15, 0);
        due("each costs the same", x.measure(3), 4 * 512);
        due("nothing to win", x.spread(10), 0);
        wantDue(x, 0, 112, 8);
    }

    private static void promise16LeftOfLikeOnes() {
        says(16, "STEP from it to the left, to the right, down, up");
        CellRows x = withCells(1, 24, 4);
        x.terms(1, 10);
        x.terms(3, 64);
        x.want(0, 160, 0);
        // as it is 1024 less 204 over; half in the bin to the left, or half in that to the right: twice 512 less 204
        due("won", x.spread(1), 4 * (820 - 616));
        wantDue(x, 0, 96, 0);
    }

    private static void promise16DownOfLikeOnes() {
        says(16, "down, up (HELD, each)");
        CellRows x = withCells(6, 8, 4);
        x.terms(1, 10);
        x.want(0, 32, 40);
        // as it is 1024 less 409 over; half in the bin below, or half in that above: twice 512 less 409
        due("won", x.spread(1), 4 * (615 - 206));
        wantDue(x, 0, 32, 24);
    }

    private static void promise16LeftAheadOfDown() {
        says(16, "CELL by CELL, each LOOSE one: of its WANT as it is");
        CellRows x = withCells(4, 16, 1);
        x.block(2, 3, 8, 15, 0);
        x.terms(3, 8);
        x.want(0, 128, 32);
        // the bin where it is has no supply: 256 over; by 8 to the left or down 128 over
        due("won", x.spread(1), 4 * 128);
        wantDue(x, 0, 120, 32);
    }

    /** One cell of one site at a corner of the four bins, these rows and sites barred; what one round of 8 does. */
    private static void stepDue(int[] barred, int[] from, int[] to) {
        CellRows x = withCells(4, 16, 1);
        x.block(barred[0], barred[1], barred[2], barred[3], 0);
        x.terms(3, 8);
        x.want(0, from[0], from[1]);
        due("half of it is over no more", x.spread(1), 4 * 128);
        wantDue(x, 0, to[0], to[1]);
    }

    private static void promise16EachWay() {
        says(16, "to the left, to the right, down, up");
        stepDue(new int[] {0, 3, 8, 15}, new int[] {128, 16}, new int[] {120, 16});
        stepDue(new int[] {0, 3, 0, 7}, new int[] {112, 16}, new int[] {120, 16});
        stepDue(new int[] {2, 3, 0, 15}, new int[] {112, 32}, new int[] {112, 24});
        stepDue(new int[] {0, 1, 0, 15}, new int[] {112, 16}, new int[] {112, 24});
        // two ways are alike: the one that is named first
        stepDue(new int[] {0, 1, 0, 7}, new int[] {112, 16}, new int[] {120, 16});
        stepDue(new int[] {0, 1, 8, 15}, new int[] {128, 16}, new int[] {120, 16});
        stepDue(new int[] {2, 3, 0, 7}, new int[] {112, 32}, new int[] {120, 32});
    }

    /** A cell in row 2, where all is barred, with its pin on a pad: down by one costs wire, and less is over. */
    private static CellRows tornDown(int width, int pressure) {
        CellRows x = withCells(4, 8, width);
        x.block(2, 3, 0, 7, 0);
        x.terms(0, 1);
        x.terms(2, pressure);
        x.terms(3, 1);
        x.terms(4, 8);
        x.want(0, 0, 32);
        net(x, 9, 0, 0, 202, 0);
        return x;
    }

    private static void promise16LeastCost() {
        says(16, "COST: 16 times SMOOTH and PRESSURE times OVERFLOW.");
        // 16 times 8 times 9 is 16 times 72 of wire; 16 times WIDTH times PRESSURE is won
        CellRows less = tornDown(5, 14);
        due("70 for 72", less.spread(1), 0);
        wantDue(less, 0, 0, 32);
        CellRows like = tornDown(6, 12);
        due("72 for 72", like.spread(1), 0);
        wantDue(like, 0, 0, 32);
        CellRows more = tornDown(5, 15);
        due("75 for 72", more.spread(1), 16 * 3);
        wantDue(more, 0, 0, 31);
    }

    private static void promise16NotHeld() {
        says(16, "of its WANT as it is (not HELD)");
        CellRows x = new CellRows(2, 16);
        x.fence(0, 0, 0, 1);
        x.cell(1, 0);
        due("out of its fence, but nothing costs", x.spread(10), 0);
        wantDue(x, 0, 120, 8);
        net(x, 1, 0, 0, 200, 15);
        x.terms(0, 64);
        int was = x.measure(3);
        due("nearer than any that is held", x.spread(10), 0);
        wantDue(x, 0, 120, 8);
        due("cost", x.measure(3), was);
    }

    private static void promise16HeldEach() {
        says(16, "(HELD, each)");
        CellRows x = withCells(1, 8, 6);
        x.terms(3, 64);
        net(x, 1, 0, 0, 200, 7);
        // far 96: 96 * 64 / 4160 = 1, 94 smooth; held at 32 far 80: 80 * 128 / 4224 = 2, 76 smooth
        due("to the right end", x.spread(1), 16 * (94 - 76));
        wantDue(x, 0, 32, 0);
        x.drop(0);
        net(x, 1, 0, 5, 200, 0);
        // far 112: 112 * 32 / 4128 = 0; held at 0 far 80: 76
        due("to the left end", x.spread(1), 16 * (112 - 76));
        wantDue(x, 0, 0, 0);
        CellRows y = new CellRows(4, 16);
        y.fence(1, 1, 4, 7);
        y.cell(2, 0);
        y.terms(3, 1);
        net(y, 1, 0, 0, 201, 4);
        wantDue(y, 0, 112, 24);
        y.spread(1);
        // each step is held in x and in y: the last that lies in the fence, row 1
        wantDue(y, 0, 96, 16);
    }

    private static void promise16Steps() {
        says(16, "TO SPREAD, n rounds");
        for (int step : new int[] {1, 64}) {
            CellRows x = withCells(1, 32, 1);
            x.terms(0, 64);
            x.terms(3, step);
            x.want(0, 248, 0);
            net(x, 1, 0, 0, 200, 0);
            int was = x.measure(3);
            int won = x.spread(2);
            wantDue(x, 0, 248 - 2 * step, 0);
            due("by how much cost is less", won, was - x.measure(3));
        }
        CellRows y = withCells(1, 16, 4, 4);
        y.terms(1, 10);
        y.terms(2, 0);
        due("without pressure nothing costs", y.spread(10), 0);
        wantDue(y, 0, 96, 0);
    }

    private static void promise16LooseOnes() {
        says(16, "TO SPREAD: by how much COST is less.");
        CellRows x = withCells(1, 16, 1, 1);
        x.fix(0, 0, 15);
        net(x, 1, 0, 0, 200, 0);
        due("fixed ones stay", x.spread(10), 0);
        wantDue(x, 0, 240, 0);
        x.put(1, 0, 3);
        net(x, 9, 1, 0, 200, 0);
        due("one with a spot goes by its want", x.spread(1) > 0, true);
        spotDue(x, 1, 0, 3);
        wantDue(x, 1, 104, 0);
    }

    // ---- promise 17

    private static void legals() {
        promise17NoCells();
        promise17JustRoom();
        promise17NoRoom();
        promise17NoRunWithRoom();
        promise17LeastWithItLessWithoutIt();
        promise17WithWhatWasThere();
        promise17InManyRuns();
        promise17RisingXThenNumber();
        promise17FirstOfLikeRuns();
        promise17Leftmost();
        promise17LooseLoseTheirSpots();
        promise17MovesOfLoose();
    }

    private static void promise17NoCells() {
        says(17, "TO MAKE LAWFUL: MOVES of all LOOSE CELLS together. -5.");
        CellRows x = new CellRows(2, 8);
        due("none", x.legal(), 0);
        x.block(0, 1, 0, 7, 0);
        due("none, and no site", x.legal(), 0);
        due("told by undo", x.undo(), 12);
        CellRows y = withCells(1, 8, 6);
        y.fix(0, 0, 2);
        due("fixed ones alone", y.legal(), 0);
        spotDue(y, 0, 0, 2);
    }

    private static CellRows twentyInARow() {
        CellRows x = new CellRows(1, 20);
        for (int cell = 0; cell < 20; cell++) {
            x.cell(1, NONE);
        }
        return x;
    }

    private static void promise17JustRoom() {
        says(17, "none on another one, each in the RUN");
        CellRows x = withCells(1, 8, 6, 2);
        // the wants are 16 and 48; there is but one way
        due("eight of eight sites", x.legal(), 6 * 16 + 2 * 48);
        spotDue(x, 0, 0, 0);
        spotDue(x, 1, 0, 6);
        CellRows y = twentyInARow();
        // all want 152: 8, 24 and so on to 152, twice
        due("twenty of twenty sites", y.legal(), 1600);
        for (int cell = 0; cell < 20; cell++) {
            due("site", y.cellOf(cell, 6), cell);
        }
        CellRows z = new CellRows(4, 32);
        for (int cell = 0; cell < 20; cell++) {
            z.cell(6, NONE);
        }
        due("five of 6 in each of four rows", z.legal() > 0, true);
        due("all lie", z.measure(5), 0);
    }

    private static void promise17NoRoom() {
        says(17, "If one finds no RUN with room: no room.");
        refused(-5, "nine of eight sites", () -> withCells(1, 8, 6, 2, 1), CellRows::legal);
        refused(-5, "no site", () -> {
            CellRows x = withCells(1, 8, 1);
            x.block(0, 0, 0, 7, 0);
            return x;
        }, CellRows::legal);
        refused(-5, "a run one short", () -> {
            CellRows x = withCells(1, 8, 6);
            x.block(0, 0, 5, 5, 0);
            return x;
        }, CellRows::legal);
        refused(-5, "its fence is one short", () -> {
            CellRows x = new CellRows(2, 8);
            x.fence(0, 0, 0, 1);
            x.cell(3, 0);
            return x;
        }, CellRows::legal);
        refused(-5, "with spots that must not be lost", () -> {
            CellRows x = chip();
            x.cell(6, 0);
            return x;
        }, CellRows::legal);
        CellRows just = withCells(1, 8, 5);
        just.block(0, 0, 5, 5, 0);
        due("a run just as long", just.legal(), 5 * 24);
    }

    private static void promise17NoRunWithRoom() {
        says(17, "that have room for it and where it costs least");
        refused(-5, "the narrow one has come where the wide one alone could go", () -> {
            CellRows x = withCells(1, 8, 2, 3);
            x.block(0, 0, 3, 5, 0);
            x.want(0, 0, 0);
            x.want(1, 16, 0);
            return x;
        }, CellRows::legal);
        CellRows x = withCells(1, 8, 2, 3);
        x.block(0, 0, 3, 5, 0);
        x.want(0, 17, 0);
        x.want(1, 16, 0);
        // the wide one comes first: at 0; then there is room at 6 alone
        due("the other way round", x.legal(), 3 * 16 + 2 * 79);
        spotDue(x, 0, 0, 6);
        spotDue(x, 1, 0, 0);
    }

    /** Cell 0 (6 wide) at 1 of row 0 must give way by one site, if cell 1 (2 wide) comes behind it. */
    private static CellRows givingWay(int tall, int x) {
        CellRows made = withCells(2, 8, 6, 2);
        made.terms(4, tall);
        made.want(0, 16, 0);
        made.want(1, x, 0);
        made.legal();
        return made;
    }

    private static void promise17WithWhatWasThere() {
        says(17, "the RUN's LEAST with it less that without it");
        CellRows x = withCells(2, 8, 6, 2);
        x.terms(4, 8);
        x.want(0, 17, 0);
        x.want(1, 17, 0);
        // in row 0: 102 less 6 for the other one and 2 * 79: 254; in row 1: 2 and 256
        due("moves", x.lawfully(0), 102 + 158);
        due("moves", x.legal(), 102 + 158);
        spotDue(x, 0, 0, 0);
        spotDue(x, 1, 0, 6);
        due("once more", x.legal(), 102 + 158);
        spotDue(x, 1, 0, 6);
    }

    /** 11 runs in each of 8 rows: 4, 4, 4, 2, 1, 1, 1, 5 of none, 2 of each fence. */
    static CellRows manyRuns() {
        CellRows x = new CellRows(8, 32);
        for (int i = 0; i < 3; i++) {
            x.fence(0, 7, 6 * i + 4, 6 * i + 5);
        }
        for (int i = 0; i < 4; i++) {
            x.block(0, 7, 2 * i + 20, 2 * i + 20, 0);
        }
        return x;
    }

    private static void promise17InManyRuns() {
        says(17, "of its FENCE, by rising ROWS, from the left");
        CellRows x = manyRuns();
        x.cell(5, NONE);
        x.cell(2, 2);
        x.cell(1, NONE);
        x.cell(2, 0);
        x.want(0, 16 * 27, 112);
        x.want(1, 16 * 16, 112);
        x.want(2, 16 * 25, 112);
        x.want(3, 16 * 4, 0);
        due("each where it wants to be", x.legal(), 0);
        spotDue(x, 0, 7, 27);
        spotDue(x, 1, 7, 16);
        spotDue(x, 2, 7, 25);
        spotDue(x, 3, 0, 4);
        CellRows y = withCells(2, 8, 1, 1);
        y.block(1, 1, 0, 7, 0);
        y.want(0, 0, 0);
        y.want(1, 0, 16);
        // 1 can't lie in row 1: 0 and 64 at 1 of row 0, 16 and 64
        due("rows that are not barred alone", y.legal(), 16 + 64);
        spotDue(y, 0, 0, 0);
        spotDue(y, 1, 0, 1);
    }

    private static void promise17LeastWithItLessWithoutIt() {
        says(17, "the first of like ones: the RUN's LEAST with it less that without it, and WIDTH times TALL times how far 16 "
                + "times ROW is from its WANT's y.");
        // in row 0: 96 for the other one and 2 * 80; in row 1: 2 * 16 * TALL
        spotDue(givingWay(7, 16), 1, 1, 1);
        spotDue(givingWay(8, 16), 1, 0, 6);
        spotDue(givingWay(8, 16), 0, 0, 0);
        // one to the right: 254 in row 0, 258 in row 1
        spotDue(givingWay(8, 17), 1, 0, 6);
        // 7 times: 254 in row 0, 226 in row 1
        spotDue(givingWay(7, 17), 1, 1, 1);
    }

    private static void promise17RisingXThenNumber() {
        says(17, "one by one, by rising x of WANT, then by number");
        CellRows x = withCells(1, 8, 1, 1);
        x.want(0, 32, 0);
        x.want(1, 32, 0);
        // at 1 and 2 or at 2 and 3
        due("like x: by number", x.legal(), 16);
        spotDue(x, 0, 0, 1);
        spotDue(x, 1, 0, 2);
        x.want(1, 31, 0);
        due("one less", x.legal(), 15);
        spotDue(x, 0, 0, 2);
        spotDue(x, 1, 0, 1);
        CellRows falling = withCells(1, 8, 1, 1, 1, 1);
        for (int cell = 0; cell < 4; cell++) {
            falling.want(cell, 64 - 16 * cell, 0);
        }
        due("each where it wants to be", falling.legal(), 0);
        for (int cell = 0; cell < 4; cell++) {
            spotDue(falling, cell, 0, 4 - cell);
        }
    }

    private static void promise17FirstOfLikeRuns() {
        says(17, "(of its FENCE, by rising ROWS, from the left)");
        CellRows x = withCells(1, 9, 1);
        x.block(0, 0, 4, 4, 0);
        due("either run is 16 far: that to the left", x.legal(), 16);
        spotDue(x, 0, 0, 3);
        CellRows y = withCells(2, 8, 1);
        y.want(0, 48, 8);
        due("either row is 8 far: the lower", y.legal(), 4 * 8);
        spotDue(y, 0, 0, 3);
        y.want(0, 48, 9);
        due("the nearer", y.legal(), 4 * 7);
        spotDue(y, 0, 1, 3);
        CellRows z = withCells(2, 9, 1);
        z.terms(4, 1);
        z.want(0, 64, 8);
        z.block(0, 0, 4, 4, 0);
        // 16 and 8 in row 0, 0 and 8 in row 1
        due("the cheaper", z.legal(), 8);
        spotDue(z, 0, 1, 4);
    }

    private static void promise17Leftmost() {
        says(17, "In the end those of each RUN lie so, of like ones the first leftmost, then the second, and on.");
        CellRows x = withCells(1, 8, 1);
        x.want(0, 24, 0);
        due("either is 8 far", x.legal(), 8);
        spotDue(x, 0, 0, 1);
        x.want(0, 25, 0);
        due("the nearer", x.legal(), 7);
        spotDue(x, 0, 0, 2);
        CellRows y = withCells(1, 8, 1, 1);
        y.want(0, 24, 0);
        y.want(1, 40, 0);
        // 0 at 1 or 2, 1 at 2 or 3: the first leftmost, then the second
        due("both", y.legal(), 16);
        spotDue(y, 0, 0, 1);
        spotDue(y, 1, 0, 2);
    }

    private static void promise17LooseLoseTheirSpots() {
        says(17, "all LOOSE CELLS lose their SPOTS");
        CellRows x = withCells(1, 16, 2, 2);
        x.put(0, 0, 14);
        x.want(0, 0, 0);
        x.want(1, 224, 0);
        x.put(1, 0, 0);
        due("where they lie is no matter", x.legal(), 0);
        spotDue(x, 0, 0, 0);
        spotDue(x, 1, 0, 14);
        due("undone", x.undo(), 12);
        spotDue(x, 0, 0, 14);
        spotDue(x, 1, 0, 0);
    }

    private static void promise17MovesOfLoose() {
        says(17, "MOVE of a CELL with a SPOT: WIDTH times (how far 16 times SITE is from its WANT's x, and TALL times "
                + "how far 16 times ROW is from its y).");
        CellRows x = withCells(2, 8, 2, 3);
        x.terms(4, 8);
        x.fix(1, 0, 0);
        x.want(0, 33, 15);
        due("by 1 and by 8 times 1, twice", x.legal(), 2 * (1 + 8));
        spotDue(x, 0, 1, 2);
        due("the fixed one has none", x.cellOf(1, 8), 0);
    }

    // ---- promise 18

    private static void windows() {
        promise18TwoToFour();
        promise18AnyKSideBySide();
        promise18TwentyInOneRun();
        promise18GapsStayInTheirOrder();
        promise18FirstByTheirPlaces();
        promise18RunByRun();
        promise18WithoutSpots();
    }

    /** Four cells at 0 to 3, each with a net to the site that is as far from the other end. */
    private static CellRows turned() {
        CellRows x = withCells(1, 8, 1, 1, 1, 1);
        for (int cell = 0; cell < 4; cell++) {
            x.put(cell, 0, cell);
            net(x, 1, cell, 0, 200, 3 - cell);
        }
        return x;
    }

    private static void promise18TwoToFour() {
        says(18, "WINDOWS of k. -1 (2 .. 4).");
        for (int k : new int[] {1, 5, 0, -1, LEAST, MOST}) {
            refused(-1, "windows of " + k, Checks::chip, x -> x.windows(k));
        }
        CellRows two = turned();
        // 0 1: as much; 1 2: both come home; 1 3: as much
        due("of 2", two.windows(2), 32);
        int[] sites = {0, 2, 1, 3};
        for (int cell = 0; cell < 4; cell++) {
            spotDue(two, cell, 0, sites[cell]);
        }
        CellRows four = turned();
        due("of 4", four.windows(4), 128);
        for (int cell = 0; cell < 4; cell++) {
            spotDue(four, cell, 0, 3 - cell);
        }
        due("told by undo", four.undo(), 13);
        due("wire", four.measure(0), 128);
    }

    private static void promise18AnyKSideBySide() {
        says(18, "of the CELLS that lie in it any k side by side, from the left on");
        CellRows x = turned();
        x.take(3);
        due("three are no window of 4", x.windows(4), 0);
        // 48 is the least, as 0 2 1 and as others behind it
        due("they are one of 3", x.windows(3), 16 * (3 + 1 + 1) - 48);
        spotDue(x, 0, 0, 0);
        spotDue(x, 2, 0, 1);
        spotDue(x, 1, 0, 2);
        CellRows one = withCells(1, 8, 1);
        one.put(0, 0, 5);
        net(one, 1, 0, 0, 200, 0);
        due("one is no window of 2", one.windows(2), 0);
        spotDue(one, 0, 0, 5);
        due("no cells", new CellRows(2, 8).windows(2), 0);
        CellRows carried = inARow(4);
        net(carried, 1, 0, 0, 200, 15);
        due("one is carried on from window to window", carried.windows(2), 48);
        spotDue(carried, 0, 0, 3);
        spotDue(carried, 1, 0, 0);
        spotDue(carried, 3, 0, 2);
    }

    private static void promise18TwentyInOneRun() {
        says(18, "any k side by side, from the left on");
        for (int k = 2; k <= 4; k++) {
            CellRows x = twentyInARow();
            for (int cell = 0; cell < 20; cell++) {
                x.put(cell, 0, cell);
            }
            net(x, 1, 19, 0, 200, 0);
            due("the last one comes as far ahead as its window goes", x.windows(k), 16 * (k - 1));
            due("where it lies", x.cellOf(19, 6), 20 - k);
            due("the one ahead of it lies last", x.cellOf(18, 6), 19);
            due("the first lies as it did", x.cellOf(0, 6), 0);
        }
    }

    private static void promise18GapsStayInTheirOrder() {
        says(18, "gaps between them stay in their order");
        CellRows x = withCells(1, 16, 3, 1, 2);
        x.put(0, 0, 1);
        x.put(1, 0, 4);
        x.put(2, 0, 9);
        net(x, 1, 0, 0, 200, 15);
        net(x, 1, 2, 0, 200, 0);
        // 2 at 1, then no gap, 1 at 3, then a gap of 4, 0 at 8
        due("turned round", x.windows(3), 16 * (7 + 8));
        spotDue(x, 2, 0, 1);
        spotDue(x, 1, 0, 3);
        spotDue(x, 0, 0, 8);
    }

    private static void promise18FirstByTheirPlaces() {
        says(18, "CELLS are put into the order with the least WIRE, the first by their places now");
        CellRows x = withCells(1, 8, 1, 1, 1);
        for (int cell = 0; cell < 3; cell++) {
            x.put(cell, 0, 2 - cell);
        }
        due("all orders are alike: as they lie", x.windows(3), 0);
        for (int cell = 0; cell < 3; cell++) {
            spotDue(x, cell, 0, 2 - cell);
        }
        net(x, 1, 0, 0, 200, 0);
        // 0 to the left; behind it 2 and 1 as they lay: 2 ahead of 1
        due("0 alone matters", x.windows(3), 32);
        spotDue(x, 0, 0, 0);
        spotDue(x, 2, 0, 1);
        spotDue(x, 1, 0, 2);
        for (int last = 1; last < 4; last++) {
            CellRows four = inARow(4);
            net(four, 1, last, 0, 200, 0);
            due("one of four to the left, the others as they lay", four.windows(4), 16 * last);
            for (int cell = 0; cell < 4; cell++) {
                spotDue(four, cell, 0, cell == last ? 0 : cell < last ? cell + 1 : cell);
            }
        }
    }

    private static void promise18RunByRun() {
        says(18, "RUN by RUN (ROW by ROW, FENCE NONE, then 0 on, from the left)");
        CellRows x = new CellRows(2, 16);
        x.fence(0, 0, 4, 7);
        x.block(0, 0, 10, 10, 0);
        int[] sites = {2, 3, 4, 5, 8, 9, 11, 12};
        for (int cell = 0; cell < 8; cell++) {
            x.cell(1, cell / 2 == 1 ? 0 : NONE);
            x.put(cell, 0, sites[cell]);
            net(x, 1, cell, 0, 200, cell % 2 == 0 ? 15 : 0);
        }
        // in each of the four runs the two change: 16 and 16
        due("four runs", x.windows(2), 4 * 32);
        for (int cell = 0; cell < 8; cell++) {
            spotDue(x, cell, 0, sites[cell ^ 1]);
        }
    }

    private static void promise18WithoutSpots() {
        says(18, "(CELLS without SPOTS stay so; by how much WIRE is less is told)");
        CellRows x = turned();
        x.take(1);
        x.take(2);
        due("the two that lie are side by side", x.windows(2), 96);
        spotDue(x, 0, 0, 3);
        spotDue(x, 3, 0, 0);
        spotDue(x, 1, NONE, NONE);
        spotDue(x, 2, NONE, NONE);
        CellRows y = turned();
        y.fix(1, 0, 1);
        due("not across a fixed one", y.windows(3), 0);
        due("those behind it", y.windows(2), 0);
        spotDue(y, 1, 0, 1);
    }

    // ---- promise 19

    private static void swaps() {
        promise19IfWireIsLess();
        promise19TwoByTwo();
        promise19LooseWithSpots();
        promise19LikeWidthAndFence();
    }

    private static void promise19IfWireIsLess() {
        says(19, "exchanged, if WIRE is less then");
        CellRows x = withCells(1, 8, 1, 1);
        x.put(0, 0, 0);
        x.put(1, 0, 2);
        net(x, 1, 0, 0, 1, 0);
        due("as much: no", x.swaps(), 0);
        spotDue(x, 0, 0, 0);
        net(x, 1, 0, 0, 200, 2);
        due("less", x.swaps(), 32);
        spotDue(x, 0, 0, 2);
        due("more: no", x.swaps(), 0);
        due("kept all the same", x.undo(), 14);
        due("undone", x.undo(), 14);
        spotDue(x, 0, 0, 0);
        CellRows y = withCells(1, 8, 1, 1, 1);
        y.put(0, 0, 1);
        y.put(1, 0, 0);
        y.want(2, 15, 0);
        net(y, 1, 0, 0, 2, 0, 200, 0);
        // 24 less 8, then 23 less 8
        due("less by one", y.swaps(), 1);
        due("no cells", new CellRows(1, 8).swaps(), 0);
    }

    private static void promise19TwoByTwo() {
        says(19, "two by two (the lower number first, rising, then the other one)");
        CellRows x = withCells(1, 8, 1, 1, 1);
        for (int cell = 0; cell < 3; cell++) {
            x.put(cell, 0, cell);
        }
        net(x, 1, 0, 0, 200, 2);
        // 0 with 1: 0 at 1; 0 with 2: 0 at 2, 2 at 1; 1 with 2: as much
        due("each pair in its turn", x.swaps(), 32);
        spotDue(x, 0, 0, 2);
        spotDue(x, 1, 0, 0);
        spotDue(x, 2, 0, 1);
    }

    private static void promise19LooseWithSpots() {
        says(19, "both LOOSE with SPOTS");
        CellRows x = withCells(1, 8, 1, 1, 1);
        x.fix(0, 0, 7);
        x.put(1, 0, 0);
        net(x, 9, 0, 0, 200, 0);
        net(x, 9, 2, 0, 200, 0);
        due("one fixed, one without a spot", x.swaps(), 0);
        spotDue(x, 0, 0, 7);
        spotDue(x, 1, 0, 0);
        spotDue(x, 2, NONE, NONE);
        x.free(0);
        due("loose", x.swaps(), 9 * 112);
        spotDue(x, 0, 0, 0);
    }

    private static void promise19LikeWidthAndFence() {
        says(19, "of like WIDTH and FENCE");
        CellRows x = new CellRows(1, 16);
        x.fence(0, 0, 8, 15);
        x.cell(1, NONE);
        x.cell(2, NONE);
        x.cell(1, 0);
        x.put(0, 0, 0);
        x.put(1, 0, 4);
        x.put(2, 0, 10);
        net(x, 9, 0, 0, 200, 15);
        due("another width, another fence", x.swaps(), 0);
        spotDue(x, 0, 0, 0);
        x.cell(1, NONE);
        x.put(3, 0, 7);
        due("a like one", x.swaps(), 9 * 112);
        spotDue(x, 0, 0, 7);
        spotDue(x, 3, 0, 0);
    }

    // ---- promise 20

    private static void hops() {
        promise20IfLessThanNow();
        promise20LowestRowFirstSite();
        promise20LawfulOnes();
        promise20CellByCell();
        promise20InSixteenNets();
    }

    private static void promise20IfLessThanNow() {
        says(20, "to that LAWFUL one with the least WIRE, if that is less than now");
        CellRows x = withCells(2, 8, 1);
        x.put(0, 1, 5);
        due("without nets all are alike", x.hops(), 0);
        spotDue(x, 0, 1, 5);
        net(x, 1, 200, 2, 201, 6, 0, 0);
        due("within the box it stays", x.hops(), 0);
        spotDue(x, 0, 1, 5);
        x.put(0, 1, 7);
        due("from beside it to its first site", x.hops(), 16);
        spotDue(x, 0, 0, 2);
        due("told by undo", x.undo(), 15);
        spotDue(x, 0, 1, 7);
        due("no cells", new CellRows(1, 8).hops(), 0);
    }

    private static void promise20LowestRowFirstSite() {
        says(20, "the lowest ROW, the first SITE");
        CellRows x = withCells(3, 16, 1, 1);
        x.terms(4, 1);
        x.fix(1, 1, 8);
        x.put(0, 2, 15);
        net(x, 1, 0, 0, 201, 8);
        // 16 far are 8 of row 0, 7 and 9 of row 1, 8 of row 2
        due("the lowest row", x.hops(), 112 + 16 - 16);
        spotDue(x, 0, 0, 8);
        x.block(0, 0, 8, 8, 0);
        x.put(0, 2, 15);
        due("then the first site", x.hops(), 112);
        spotDue(x, 0, 1, 7);
        CellRows y = withCells(8, 32, 6);
        y.put(0, 0, 0);
        net(y, 1, 0, 5, 207, 31);
        due("to the last spot of the chip", y.hops(), 26 * 16 + 4 * 112);
        spotDue(y, 0, 7, 26);
    }

    private static void promise20LawfulOnes() {
        says(20, "CELL by CELL, each LOOSE one with a SPOT: to that LAWFUL one");
        CellRows x = new CellRows(1, 16);
        x.block(0, 0, 0, 0, 0);
        x.fence(0, 0, 1, 2);
        x.cell(2, NONE);
        x.cell(1, NONE);
        x.cell(2, 0);
        x.cell(1, NONE);
        x.put(1, 0, 3);
        x.put(0, 0, 14);
        net(x, 1, 0, 0, 200, 0);
        net(x, 1, 3, 0, 200, 0);
        // barred, in a fence, a cell's; then 4
        due("the nearest lawful one", x.hops(), 16 * 10);
        spotDue(x, 0, 0, 4);
        spotDue(x, 3, NONE, NONE);
        x.fix(0, 0, 10);
        due("a fixed one stays", x.hops(), 0);
        spotDue(x, 0, 0, 10);
    }

    private static void promise20InSixteenNets() {
        says(20, "each LOOSE one with a SPOT");
        CellRows x = withCells(1, 32, 1, 1);
        x.put(0, 0, 31);
        x.put(1, 0, 0);
        for (int number = 0; number < 16; number++) {
            net(x, 1, 0, 0, 200, number);
        }
        // seven pads to the left of it and eight to the right, or eight and seven: at 7 or at 8
        due("what it would be", x.would(0, 0, 7), 16 * (28 + 36));
        due("the first best one", x.best(0, 0), 7);
        due("the last best one", x.best(0, 1), 8);
        due("hops", x.hops(), 16 * (31 * 16 - 120) - 16 * 64);
        spotDue(x, 0, 0, 7);
        x.put(0, 0, 31);
        x.put(1, 0, 7);
        due("sorts", x.sorts(), 16 * (31 * 16 - 120) - 16 * 64);
        spotDue(x, 0, 0, 7);
        spotDue(x, 1, 0, 31);
    }

    private static void promise20CellByCell() {
        says(20, "HOPS: CELL by CELL");
        CellRows x = withCells(1, 8, 1, 1);
        x.put(0, 0, 7);
        x.put(1, 0, 0);
        net(x, 1, 0, 0, 200, 0);
        net(x, 1, 1, 0, 200, 7);
        // 0 is first: 0 is taken, it goes to 1; then 7 is free for 1
        due("one after the other", x.hops(), 96 + 112);
        spotDue(x, 0, 0, 1);
        spotDue(x, 1, 0, 7);
        due("once more", x.hops(), 16);
        spotDue(x, 0, 0, 0);
    }

    // ---- promise 21

    private static void sorts() {
        promise21FiveAtMost();
        promise21NoNetInCommon();
        promise21SoThatWireIsLeast();
        promise21OfThatFenceAndWidth();
        promise21OfLikeOnesTheFirst();
        promise21LooseWithSpots();
    }

    private static CellRows inARow(int cells) {
        CellRows x = new CellRows(1, 16);
        for (int cell = 0; cell < cells; cell++) {
            x.cell(1, NONE);
            x.put(cell, 0, cell);
        }
        return x;
    }

    private static void promise21FiveAtMost() {
        says(21, "5 at most");
        CellRows five = inARow(5);
        net(five, 1, 4, 0, 200, 0);
        due("the fifth is in it", five.sorts(), 64);
        for (int cell = 0; cell < 5; cell++) {
            spotDue(five, cell, 0, (cell + 1) % 5);
        }
        CellRows six = inARow(6);
        net(six, 1, 5, 0, 200, 0);
        due("the sixth is not", six.sorts(), 0);
        spotDue(six, 5, 0, 5);
        due("told by undo", six.undo(), 16);
        CellRows one = inARow(1);
        net(one, 1, 0, 0, 200, 9);
        due("one alone stays", one.sorts(), 0);
        due("no cells", new CellRows(1, 8).sorts(), 0);
    }

    private static void promise21NoNetInCommon() {
        says(21, "that have no NET in common with one that is in the GROUP");
        CellRows x = inARow(7);
        net(x, 1, 0, 0, 1, 0);
        net(x, 1, 1, 0, 200, 9);
        net(x, 1, 6, 0, 200, 9);
        // 1 is out by 0; 2, 3, 4, 5 come in, 6 is the sixth
        due("five without 1", x.sorts(), 0);
        CellRows y = inARow(3);
        net(y, 1, 0, 0, 1, 0);
        net(y, 1, 1, 0, 2, 0);
        net(y, 9, 2, 0, 200, 0);
        // 1 has a net with 0 and is not in it; 2 has one with 1 alone, so it is in it: 0 and 2 change
        due("only with one that is in it", y.sorts(), 9 * 32);
        spotDue(y, 0, 0, 2);
        spotDue(y, 1, 0, 1);
        spotDue(y, 2, 0, 0);
        CellRows z = inARow(2);
        net(z, 1, 0, 0, 1, 0, 200, 9);
        due("two with a net in common are no group", z.sorts(), 0);
    }

    private static void promise21SoThatWireIsLeast() {
        says(21, "their SPOTS are given to them so that WIRE is least");
        CellRows x = withCells(5, 16, 1, 1, 1, 1, 1);
        for (int cell = 0; cell < 5; cell++) {
            x.put(cell, cell, 3 * cell);
            int goal = (2 * cell + 1) % 5;
            net(x, 1 + cell, cell, 0, 200 + goal, 3 * goal);
        }
        int was = x.measure(0);
        due("each where its pad is", x.sorts(), was);
        for (int cell = 0; cell < 5; cell++) {
            spotDue(x, cell, (2 * cell + 1) % 5, 3 * ((2 * cell + 1) % 5));
        }
        CellRows y = inARow(2);
        net(y, 1, 0, 0, 200, 15);
        net(y, 2, 1, 0, 200, 15);
        due("the heavier one stays", y.sorts(), 0);
        net(y, 2, 0, 0, 200, 15);
        due("now the other one is heavier", y.sorts(), 16);
        spotDue(y, 0, 0, 1);
        spotDue(y, 1, 0, 0);
    }

    private static void promise21OfThatFenceAndWidth() {
        says(21, "FENCE NONE, then 0 on, WIDTH by WIDTH");
        for (int width = 1; width <= 6; width++) {
            CellRows x = new CellRows(2, 32);
            x.fence(1, 1, 0, 31);
            for (int cell = 0; cell < 4; cell++) {
                x.cell(width, cell / 2 - 1);
                x.put(cell, cell / 2, 10 * (cell % 2));
                net(x, 1, cell, 0, 200 + cell / 2, 10 * (1 - cell % 2));
            }
            due("both groups", x.sorts(), 4 * 160);
            for (int cell = 0; cell < 4; cell++) {
                spotDue(x, cell, cell / 2, 10 * (1 - cell % 2));
            }
        }
        CellRows y = new CellRows(1, 16);
        y.fence(0, 0, 8, 15);
        y.cell(1, NONE);
        y.cell(1, 0);
        y.cell(2, NONE);
        y.put(0, 0, 0);
        y.put(1, 0, 9);
        y.put(2, 0, 3);
        net(y, 1, 0, 0, 200, 9);
        due("another fence, another width", y.sorts(), 0);
    }

    private static void promise21OfLikeOnesTheFirst() {
        says(21, "of like ones the first (CELL by CELL, SPOTS in the order of the CELLS that had them)");
        CellRows x = withCells(1, 16, 1, 1, 1);
        x.put(0, 0, 9);
        x.put(1, 0, 4);
        x.put(2, 0, 0);
        due("all are alike: as they lie", x.sorts(), 0);
        spotDue(x, 0, 0, 9);
        net(x, 1, 2, 0, 200, 9);
        // 2 gets the spot of 0; 0 then has that of 1 ahead of that of 2
        due("2 alone matters", x.sorts(), 144);
        spotDue(x, 0, 0, 4);
        spotDue(x, 1, 0, 0);
        spotDue(x, 2, 0, 9);
    }

    private static void promise21LooseWithSpots() {
        says(21, "CELL by CELL, LOOSE with SPOTS, of that FENCE and WIDTH");
        CellRows x = inARow(4);
        x.fix(0, 0, 0);
        x.take(1);
        net(x, 1, 3, 0, 200, 0);
        net(x, 1, 1, 0, 200, 0);
        // 2 and 3 alone are in it
        due("not the fixed one, not that without a spot", x.sorts(), 16);
        spotDue(x, 0, 0, 0);
        spotDue(x, 1, NONE, NONE);
        spotDue(x, 3, 0, 2);
    }

    // ---- promise 22

    private static void shakes() {
        promise22Seeds();
        promise22Tries();
        promise22Heats();
        promise22NoCell();
        promise22DrawsWrapAround();
        promise22HeatAbove();
        promise22HeatFalls();
        promise22TheFirstTime();
        promise22UnlikeOnes();
        promise22OfHowManyCells();
        promise22FirstReason();
    }

    private static void promise22Seeds() {
        says(22, "TO SHAKE with a SEED 0 .. 1,000,000");
        for (int seed : new int[] {-1, 1000001, LEAST, MOST}) {
            refused(-1, "seed " + seed, Checks::chip, x -> x.shake(seed, 1, 0));
        }
        CellRows x = chip();
        due("the least", x.shake(0, 1, 0) >= 0, true);
        due("the greatest", x.shake(1000000, 1, 0) >= 0, true);
        due("told by undo", x.undo(), 17);
    }

    private static void promise22Tries() {
        says(22, "-1 (n 1 .. 60)");
        for (int n : new int[] {0, 61, -1, LEAST, MOST}) {
            refused(-1, n + " tries", Checks::chip, x -> x.shake(0, n, 0));
        }
        CellRows x = chip();
        due("one", x.shake(7, 1, 0) >= 0, true);
        due("sixty", x.shake(7, 60, 0) >= 0, true);
    }

    private static void promise22Heats() {
        says(22, "a HEAT 0 .. 9,999");
        for (int heat : new int[] {-1, 10000, LEAST, MOST}) {
            refused(-1, "heat " + heat, Checks::chip, x -> x.shake(0, 1, heat));
        }
        CellRows x = chip();
        due("the least", x.shake(7, 9, 0) >= 0, true);
        due("the greatest", x.shake(7, 9, 9999) >= 0, true);
    }

    private static void promise22NoCell() {
        says(22, "-4 (there is no CELL)");
        refused(-4, "none", () -> new CellRows(2, 8), x -> x.shake(0, 1, 0));
        due("one", withCells(1, 8, 1).shake(0, 60, 9999), 0);
    }

    /** Three like cells at 0, 3 and 6, each with a net to a pad. */
    private static CellRows three(int... goals) {
        CellRows x = withCells(1, 8, 1, 1, 1);
        for (int cell = 0; cell < 3; cell++) {
            x.put(cell, 0, 3 * cell);
            net(x, 1, cell, 0, 200, goals[cell]);
        }
        return x;
    }

    private static void promise22DrawsWrapAround() {
        says(22, "s becomes (s times 1,103 and 12,345) modulo 1,000,003, it is s modulo m");
        // 12,345 and 628,841: modulo 3 these are 0 and 2
        CellRows zero = three(6, 3, 0);
        due("seed 0", zero.shake(0, 1, 0), 192);
        spotDue(zero, 0, 0, 6);
        spotDue(zero, 2, 0, 0);
        // 9,036, 979,026, 874,786, 898,411: modulo 2 these are 0 and 0, 0 and 1
        CellRows most = withCells(1, 8, 1, 1);
        most.put(0, 0, 0);
        most.put(1, 0, 5);
        net(most, 1, 0, 0, 200, 5);
        due("seed 1,000,000, one try", most.shake(1000000, 1, 0), 0);
        due("seed 1,000,000, two tries", most.shake(1000000, 2, 0), 80);
        spotDue(most, 0, 0, 5);
    }

    private static void promise22HeatAbove() {
        says(22, "they are exchanged, if WIRE is then not more than HEAT above what it is");
        // seed 72 draws 0 and 1, then 1 and 2; the first costs 32, both together win 64
        CellRows just = three(2, 3, 0);
        due("just the heat above", just.shake(72, 2, 32), 64);
        spotDue(just, 0, 0, 3);
        spotDue(just, 1, 0, 6);
        spotDue(just, 2, 0, 0);
        CellRows more = three(2, 3, 0);
        due("one more than the heat", more.shake(72, 2, 31), 0);
        spotDue(more, 0, 0, 0);
        spotDue(more, 1, 0, 3);
        spotDue(more, 2, 0, 6);
    }

    private static void promise22HeatFalls() {
        says(22, "then, whatever was exchanged, HEAT is 7 times it by 8");
        // seed 5 draws 1 and 1, then 0 and 1, then 2 and 1; 7 times 37 by 8 is 32, 7 times 36 by 8 is 31
        due("32 is left at the second try", three(2, 3, 0).shake(5, 3, 37), 64);
        due("31 is left at the second try", three(2, 3, 0).shake(5, 3, 36), 0);
    }

    private static void promise22TheFirstTime() {
        says(22, "In the end all lies as it did when WIRE was least, the first time (ahead of any try, too).");
        CellRows x = three(0, 3, 6);
        due("at the best from the first on", x.shake(72, 60, 9999), 0);
        for (int cell = 0; cell < 3; cell++) {
            spotDue(x, cell, 0, 3 * cell);
        }
        CellRows y = withCells(1, 8, 1, 1, 1);
        for (int cell = 0; cell < 3; cell++) {
            y.put(cell, 0, 3 * cell);
        }
        due("all alike: ahead of any try", y.shake(72, 2, 0), 0);
        for (int cell = 0; cell < 3; cell++) {
            spotDue(y, cell, 0, 3 * cell);
        }
        CellRows rows = withCells(2, 8, 1, 1);
        rows.put(0, 0, 3);
        rows.put(1, 1, 3);
        // the seed 1 draws 0 and 1
        due("two rows: ahead of any try", rows.shake(1, 1, 0), 0);
        spotDue(rows, 0, 0, 3);
        spotDue(rows, 1, 1, 3);
        // 0 and 1, then 1 and 2: 0 is at 3 after the first and stays there: the first time counts
        CellRows z = withCells(1, 8, 1, 1, 1);
        for (int cell = 0; cell < 3; cell++) {
            z.put(cell, 0, 3 * cell);
        }
        net(z, 1, 0, 0, 200, 3);
        due("the first time that it is least", z.shake(72, 2, 0), 48);
        spotDue(z, 0, 0, 3);
        spotDue(z, 1, 0, 0);
        spotDue(z, 2, 0, 6);
    }

    private static void promise22UnlikeOnes() {
        says(22, "are these two unlike, both LOOSE with SPOTS, of like WIDTH and FENCE");
        // seed 0 draws 0 and 2 of three
        CellRows fixed = three(6, 3, 0);
        fixed.fix(2, 0, 6);
        due("one is fixed", fixed.shake(0, 1, 9999), 0);
        CellRows taken = three(6, 3, 0);
        taken.take(2);
        due("one has no spot", taken.shake(0, 1, 9999), 0);
        spotDue(taken, 2, NONE, NONE);
        CellRows wide = withCells(1, 8, 1, 1, 2);
        wide.put(0, 0, 0);
        wide.put(2, 0, 6);
        net(wide, 1, 0, 0, 200, 6);
        due("one is wider", wide.shake(0, 1, 9999), 0);
        CellRows fenced = new CellRows(1, 8);
        fenced.fence(0, 0, 5, 7);
        fenced.cell(1, NONE);
        fenced.cell(1, NONE);
        fenced.cell(1, 0);
        fenced.put(0, 0, 0);
        fenced.put(2, 0, 6);
        net(fenced, 1, 0, 0, 200, 6);
        due("one is of a fence", fenced.shake(0, 1, 9999), 0);
        spotDue(fenced, 0, 0, 0);
        // seed 5 draws 1 and 1 first
        due("one twice", three(6, 3, 0).shake(5, 1, 9999), 0);
    }

    private static void promise22OfHowManyCells() {
        says(22, "A try: two DRAWS of how many CELLS there are");
        // 12,345 and 628,841: modulo 4 these are 1 and 1, modulo 5 these are 0 and 1
        CellRows four = three(6, 0, 3);
        four.cell(1, NONE);
        due("four, one without a spot", four.shake(0, 1, 0), 0);
        four.cell(6, NONE);
        due("five", four.shake(0, 1, 0), 96);
        spotDue(four, 0, 0, 3);
        spotDue(four, 1, 0, 0);
    }

    private static void promise22FirstReason() {
        says(22, "The first of these in that order.");
        Scene empty = () -> new CellRows(2, 8);
        refused(-1, "a wrong seed, no cell", empty, x -> x.shake(-1, 1, 0));
        refused(-1, "wrong tries, no cell", empty, x -> x.shake(0, 61, 0));
        refused(-1, "a wrong heat, no cell", empty, x -> x.shake(0, 1, 10000));
    }

    // ---- promise 23

    private static void undoes() {
        promise23EachAct();
        promise23EachPass();
        promise23ChangedOrNot();
        promise23TwelveAreKept();
        promise23TheRingGoesRound();
        promise23NotRefusedOnes();
        promise23TermsAndTapeAreNot();
        promise23ThereIsNone();
    }

    /** The act and undo() after it: all is as it was ahead of the act. */
    private static void takenBack(int code, Scene scene, Act act, Act toTape) {
        CellRows x = scene.set();
        CellRows twin = scene.set();
        due("the act " + code + " is not refused", act.on(x) >= 0, true);
        int kept = x.count(7);
        due("told", x.undo(), code);
        due("one less can be undone", x.count(7), kept - 1);
        due("status", x.status(), 0);
        toTape.on(twin);
        alike("the act " + code + " undone", x, twin);
    }

    private static void promise23EachAct() {
        says(23, "The latest block() (told as 0), fence() (1), cell() (2), net() (3), drop() (4), want() (5), fix() (6), "
                + "free() (7), put() (8), take() (9)");
        Act nothing = x -> 0;
        takenBack(0, Checks::chip, x -> x.block(0, 0, 1, 1, 1), nothing);
        takenBack(1, Checks::chip, x -> x.fence(0, 0, 0, 1), nothing);
        takenBack(2, Checks::chip, x -> x.cell(6, 0), nothing);
        takenBack(3, Checks::chip, x -> x.net(9), twin -> twin.end(0));
        takenBack(4, Checks::chip, x -> x.drop(0), nothing);
        takenBack(5, Checks::chip, x -> x.want(3, 7, 3), nothing);
        takenBack(6, Checks::chip, x -> x.fix(3, 0, 1), nothing);
        takenBack(7, Checks::chip, x -> x.free(1), nothing);
        takenBack(8, Checks::chip, x -> x.put(3, 1, 9), nothing);
        takenBack(9, Checks::chip, x -> x.take(2), nothing);
    }

    private static void promise23EachPass() {
        says(23, "start() (10), spread() (11), legal() (12), windows() (13), swaps() (14), hops() (15), sorts() (16), "
                + "shake() (17)");
        Act nothing = x -> 0;
        Act[] passes = {x -> x.start(2), x -> x.spread(2), CellRows::legal, x -> x.windows(3), CellRows::swaps,
            CellRows::hops, CellRows::sorts, x -> x.shake(0, 9, 99)};
        for (int i = 0; i < passes.length; i++) {
            Act pass = passes[i];
            due("the pass " + (10 + i) + " does something", pass.on(three(6, 1, 0)) > 0, true);
            takenBack(10 + i, () -> three(6, 1, 0), pass, nothing);
            takenBack(10 + i, Checks::chip, pass, nothing);
        }
    }

    private static void promise23ChangedOrNot() {
        says(23, "(whether it changed something or not; 12 are kept)");
        Act[] acts = {x -> x.want(0, 56, 0), x -> x.start(1), x -> x.spread(1), x -> x.windows(2), CellRows::swaps,
            CellRows::hops, CellRows::sorts, x -> x.shake(0, 1, 0)};
        int[] codes = {5, 10, 11, 13, 14, 15, 16, 17};
        for (int i = 0; i < acts.length; i++) {
            CellRows x = withCells(1, 8, 1);
            due("nothing is changed", acts[i].on(x), 0);
            due("two are kept", x.count(7), 2);
            due("told", x.undo(), codes[i]);
            due("then the cell", x.undo(), 2);
        }
        CellRows y = withCells(1, 8, 1);
        y.put(0, 0, 4);
        y.legal();
        spotDue(y, 0, 0, 3);
        y.legal();
        due("the second legal()", y.undo(), 12);
        spotDue(y, 0, 0, 3);
        due("the first", y.undo(), 12);
        spotDue(y, 0, 0, 4);
    }

    private static void promise23TwelveAreKept() {
        says(23, "12 are kept");
        CellRows twelve = new CellRows(2, 16);
        for (int i = 0; i < 12; i++) {
            due("kept so far", twelve.count(7), i);
            twelve.cell(1, NONE);
        }
        due("twelve", twelve.count(7), 12);
        for (int i = 11; i >= 0; i--) {
            due("each comes back", twelve.undo(), 2);
            due("cells", twelve.count(4), i);
        }
        due("no more", twelve.undo(), -4);
        CellRows thirteen = new CellRows(2, 16);
        for (int i = 0; i < 13; i++) {
            thirteen.cell(1, NONE);
        }
        due("twelve of thirteen", thirteen.count(7), 12);
        for (int i = 12; i >= 1; i--) {
            due("each comes back", thirteen.undo(), 2);
        }
        due("but not the first", thirteen.undo(), -4);
        due("one cell stays", thirteen.count(4), 1);
    }

    private static void promise23TheRingGoesRound() {
        says(23, "BLOCKS, FENCES, CELLS, NETS are as they were");
        CellRows x = withCells(1, 32, 1);
        for (int i = 1; i <= 20; i++) {
            x.want(0, i, 0);
        }
        for (int i = 19; i >= 8; i--) {
            due("want()", x.undo(), 5);
            wantDue(x, 0, i, 0);
        }
        due("no more", x.undo(), -4);
        for (int i = 101; i <= 105; i++) {
            x.want(0, i, 0);
        }
        due("five", x.count(7), 5);
        x.undo();
        x.undo();
        wantDue(x, 0, 103, 0);
        for (int i = 201; i <= 211; i++) {
            x.want(0, i, 0);
        }
        due("twelve of fourteen", x.count(7), 12);
        for (int i = 0; i < 12; i++) {
            x.undo();
        }
        wantDue(x, 0, 102, 0);
        due("no more", x.undo(), -4);
    }

    private static void promise23NotRefusedOnes() {
        says(23, "that was not REFUSED");
        CellRows x = chip();
        int kept = x.count(7);
        x.block(9, 9, 9, 9, 9);
        x.fence(0, 0, 12, 12);
        x.cell(0, 0);
        x.net(0);
        x.drop(9);
        x.want(9, 0, 0);
        x.fix(1, 0, 0);
        x.free(0);
        x.put(1, 0, 0);
        x.take(3);
        x.start(0);
        x.spread(0);
        x.windows(0);
        x.shake(0, 0, 0);
        x.terms(0, 0);
        due("kept", x.count(7), kept);
        due("the latest that was not", x.undo(), 3);
    }

    private static void promise23TermsAndTapeAreNot() {
        says(23, "(TERMS, the TAPE are not)");
        CellRows x = chip();
        x.want(3, 0, 0);
        x.terms(0, 64);
        x.terms(4, 8);
        x.end(0);
        x.feed(1, 2, 3, 4, 5);
        int kept = x.count(7);
        due("want()", x.undo(), 5);
        due("the terms are no acts", x.count(7), kept - 1);
        due("GAMMA", x.count(14), 64);
        due("TALL", x.count(18), 8);
        due("the tape", x.count(8), 20);
        due("net()", x.undo(), 3);
        due("the tape still", x.count(8), 20);
        due("what was refused stays counted", x.count(9) + x.count(11), 0);
        x.undo();
        x.free(0);
        x.undo();
        due("what was refused stays counted", x.count(11), 1);
    }

    private static void promise23ThereIsNone() {
        says(23, "-4 there is none.");
        refused(-4, "of none", () -> new CellRows(2, 8), CellRows::undo);
        CellRows x = new CellRows(2, 8);
        x.cell(1, NONE);
        due("one", x.undo(), 2);
        due("no more", x.undo(), -4);
        due("status", x.status(), -4);
        due("nor is undo() undone", x.count(4), 0);
    }
}
