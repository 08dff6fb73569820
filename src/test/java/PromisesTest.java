/** Each promise by itself: ordinary calls, the edges that the document names, wrong inputs; all worked out by hand. */
public final class PromisesTest extends Checks {
    public static void main(String[] args) {
        newObject();
        terms();
        feedAndEnd();
        blocks();
        blocksBesideCells();
        fences();
        cells();
        nets();
        netsFromWrongTapes();
        drops();
        wants();
        fixes();
        freesPutsTakes();
        starts();
        startsHeld();
        spreads();
        spreadsHeld();
        legalOrder();
        legalRuns();
        legalWithoutRoom();
        windowsGaps();
        windowsOrder();
        swapsAndTies();
        hopsAndTies();
        sortsGroups();
        shakes();
        shakesHot();
        undoes();
        undoKeeps();
        tellsCells();
        tellsNets();
        tellsBins();
        measures();
        demands();
        tellsLawful();
        tellsRuns();
        wouldAndBest();
        onPaper();
        fills();
        counts();
        statuses();
        close("PromisesTest");
    }

    private static void newObject() {
        promise = 1;
        int[][] sizes = {{LEAST, LEAST, 1, 8}, {0, 7, 1, 8}, {1, 8, 1, 8}, {5, 19, 5, 19}, {8, 32, 8, 32},
            {9, 33, 8, 32}, {MOST, MOST, 8, 32}};
        for (int[] size : sizes) {
            CellRows x = new CellRows(size[0], size[1]);
            due("rows of " + size[0], x.count(0), size[2]);
            due("sites of " + size[1], x.count(1), size[3]);
            for (int what = 2; what <= 13; what++) {
                if (what != 6) {
                    due("count " + what + " at first", x.count(what), 0);
                }
            }
            due("wire at first", x.measure(0), 0);
            due("status at first", x.status(), 0);
        }
        due("NONE", CellRows.NONE, -1);
    }

    private static void terms() {
        promise = 2;
        CellRows x = new CellRows(2, 8);
        int[][] ranges = {{1, 64, 16}, {10, 100, 80}, {0, 99, 4}, {1, 64, 16}, {1, 8, 4}, {1, 99, 6}};
        for (int what = 0; what < 6; what++) {
            int[] range = ranges[what];
            due("first of " + what, x.count(14 + what), range[2]);
            due("too low", x.terms(what, range[0] - 1), -1);
            due("status", x.status(), -1);
            due("too high", x.terms(what, range[1] + 1), -1);
            due("kept", x.count(14 + what), range[2]);
            due("lowest", x.terms(what, range[0]), range[2]);
            due("status", x.status(), 0);
            due("highest", x.terms(what, range[1]), range[0]);
            due("now", x.count(14 + what), range[1]);
        }
        due("no such", x.terms(-1, 10), -1);
        due("no such", x.terms(6, 10), -1);
        due("no such", x.terms(MOST, 10), -1);
        due("no such", x.terms(LEAST, LEAST), -1);
        due("refused", x.count(9), 16);
        due("not an act to be undone", x.undo(), -4);
    }

    private static void feedAndEnd() {
        promise = 3;
        CellRows x = withCells(8, 32, 1, 2, 3, 4, 5, 6);
        for (int i = 1; i <= 5; i++) {
            due("feed " + i, x.feed(-1, 0, MOST, LEAST, i), 20 * i);
        }
        due("too much", x.feed(0, 0, 0, 0, 0), -1);
        due("bytes", x.count(8), 100);
        due("that is no refusal", x.count(9), 0);
        due("status", x.status(), 0);
        promise = 4;
        due("too many", x.end(101), -1);
        due("all", x.end(100), 100);
        due("some", x.end(99), 99);
        due("more again", x.end(100), -1);
        due("below 0", x.end(-1), -1);
        due("far below 0", x.end(LEAST), -1);
        due("far above", x.end(MOST), -1);
        due("81 bytes", x.end(81), 81);
        due("no room for 20", x.feed(0, 0, 0, 0, 0), -1);
        due("80 bytes", x.end(80), 80);
        due("room for 20", x.feed(0, 0, 0, 0, 0), 100);
        due("none", x.end(0), 0);
        due("no refusal", x.count(9), 0);
        promise = 3;
        due("the highest byte first", x.feed(0x05030201, 0xC7000000, 0xCF1F0400, 0, 0), 20);
        x.end(4);
        due("net", x.net(1), 0);
        due("byte 0", x.netOf(0, 10), 5);
        due("byte 1", x.netOf(0, 11), 3);
        due("byte 2", x.netOf(0, 12), 2);
        due("byte 3", x.netOf(0, 13), 1);
        due("high bytes too", x.feed(0xCF1F0000, 0, 0, 0, 0), 20);
        x.end(4);
        due("net", x.net(1), 1);
        due("207", x.netOf(1, 10), 207);
        due("31", x.netOf(1, 11), 31);
    }

    private static void blocks() {
        promise = 5;
        CellRows x = new CellRows(4, 16);
        int[][] wrongs = {{-1, 0, 0, 0, 0}, {0, 4, 0, 0, 0}, {1, 0, 0, 0, 0}, {0, 0, -1, 0, 0}, {0, 0, 0, 16, 0},
            {0, 0, 1, 0, 0}, {0, 0, 0, 0, -1}, {0, 0, 0, 0, 5}, {LEAST, MOST, LEAST, MOST, 0}, {0, 0, 0, 0, MOST}};
        for (int[] w : wrongs) {
            due("a number that can't be", x.block(w[0], w[1], w[2], w[3], w[4]), -1);
        }
        due("refused", x.count(9), wrongs.length);
        due("in the middle", x.block(1, 2, 6, 7, 2), 0);
        due("two runs beside it", x.runs(1, -1), 2);
        due("as far as the halo", x.run(1, -1, 0, 1), 4);
        due("from behind the halo", x.run(1, -1, 1, 0), 10);
        due("both rows", x.runs(2, -1), 2);
        due("no halo of rows", x.runs(0, -1), 1);
        due("no halo of rows", x.runs(3, -1), 1);
        due("at the left end", x.block(0, 0, 0, 0, 4), 1);
        due("cut to the chip", x.run(0, -1, 0, 0), 5);
        due("at the right end", x.block(3, 3, 15, 15, 4), 2);
        due("cut to the chip", x.run(3, -1, 0, 1), 11);
        due("blocks may meet", x.block(0, 3, 0, 15, 0), 3);
        due("nothing left", x.runs(3, -1), 0);
        due("no room", x.block(0, 0, 0, 0, 0), -5);
        due("how many", x.count(2), 4);
        due("undone", x.undo(), 0);
        due("runs again", x.runs(3, -1), 1);
    }

    private static void blocksBesideCells() {
        promise = 5;
        CellRows x = withCells(2, 16, 2, 3, 2);
        x.fix(0, 0, 5);
        x.put(1, 0, 10);
        x.put(2, 1, 10);
        due("bars a fixed cell's first", x.block(0, 0, 4, 4, 1), -4);
        due("bars a fixed cell's last", x.block(0, 0, 7, 7, 1), -4);
        due("status", x.status(), -4);
        due("just ahead of it", x.block(0, 0, 4, 4, 0), 0);
        due("just behind it", x.block(0, 0, 8, 8, 1), 1);
        due("a loose one just behind the halo stays", x.cellOf(1, 5), 0);
        due("its last site barred", x.block(0, 0, 12, 12, 0), 2);
        spotDue(x, 1, -1, -1);
        spotDue(x, 2, 1, 10);
        spotDue(x, 0, 0, 5);
        due("by the halo", x.block(1, 1, 15, 15, 4), 3);
        spotDue(x, 2, -1, -1);
        due("what can't be comes ahead of no room", x.block(0, 0, 5, 5, 0), -4);
        due("a wrong number comes ahead of that", x.block(0, 0, 5, 5, 9), -1);
    }

    private static void fences() {
        promise = 6;
        CellRows x = withCells(4, 16, 2, 2);
        int[][] wrongs = {{-1, 0, 0, 0}, {0, 4, 0, 0}, {2, 1, 0, 0}, {0, 0, -1, 0}, {0, 0, 0, 16}, {0, 0, 3, 2}};
        for (int[] w : wrongs) {
            due("a number that can't be", x.fence(w[0], w[1], w[2], w[3]), -1);
        }
        x.fix(0, 0, 0);
        x.put(1, 3, 7);
        due("has a fixed cell's site", x.fence(0, 1, 1, 4), -4);
        due("beside it", x.fence(0, 1, 2, 5), 0);
        due("a site of another fence", x.fence(1, 2, 5, 9), -4);
        due("above it", x.fence(2, 3, 0, 7), 1);
        spotDue(x, 1, -1, -1);
        due("runs of none", x.run(2, -1, 0, 0), 8);
        due("runs of the fence", x.run(2, 1, 0, 1), 8);
        due("the last", x.fence(0, 0, 15, 15), 2);
        due("no room", x.fence(3, 3, 15, 15), -5);
        due("what can't be comes ahead of no room", x.fence(0, 0, 15, 15), -4);
        due("how many", x.count(3), 3);
        due("undone", x.undo(), 1);
        due("how many", x.count(3), 2);
    }

    private static void cells() {
        promise = 7;
        CellRows x = new CellRows(3, 9);
        due("width", x.cell(0, -1), -1);
        due("width", x.cell(7, -1), -1);
        due("width ahead of fence", x.cell(7, 5), -1);
        due("no fence", x.cell(1, 0), -2);
        due("no fence", x.cell(1, -2), -2);
        due("no fence", x.cell(1, MOST), -2);
        x.fence(0, 0, 0, 3);
        due("of no fence", x.cell(4, -1), 0);
        due("of the fence", x.cell(6, 0), 1);
        due("beyond it", x.cell(6, 1), -2);
        wantDue(x, 0, 40, 16);
        wantDue(x, 1, 24, 16);
        due("width", x.cellOf(1, 0), 6);
        due("fence", x.cellOf(1, 1), 0);
        due("fence", x.cellOf(0, 1), -1);
        due("loose", x.cellOf(1, 2), 0);
        spotDue(x, 1, -1, -1);
        for (int i = 2; i < 20; i++) {
            due("more", x.cell(1, -1), i);
        }
        due("no room", x.cell(1, -1), -5);
        due("no such fence ahead of no room", x.cell(1, 7), -2);
        due("refused", x.count(10), 5);
        due("refused", x.count(12), 1);
    }

    private static void nets() {
        promise = 8;
        CellRows x = withCells(2, 8, 2, 3, 1, 1, 1, 1, 1);
        tape(x, 0, 0, 1, 1);
        due("weight", x.net(0), -1);
        due("weight", x.net(10), -1);
        due("the tape stays", x.count(8), 4);
        due("two pins", x.net(9), 0);
        due("the tape is empty", x.count(8), 0);
        due("six pins, pads of one site too", net(x, 1, 0, 1, 201, 7, 1, 2, 201, 7, 6, 0, 200, 0), 1);
        due("pins", x.netOf(1, 1), 6);
        due("pads alone", net(x, 1, 200, 0, 201, 7), 2);
        for (int i = 3; i < 16; i++) {
            due("more", net(x, 1, 200, 0, 201, 7), i);
        }
        tape(x, 0, 0, 1);
        due("no room, ahead of the tape", x.net(1), -5);
        due("a wrong number ahead of that", x.net(10), -1);
        due("the tape stays", x.count(8), 3);
        x.drop(0);
        due("now it is read", x.net(1), -6);
        due("and empty", x.count(8), 0);
    }

    private static void netsFromWrongTapes() {
        promise = 8;
        CellRows x = withCells(2, 8, 2, 3, 1, 1, 1, 1, 1);
        int[][] wrongs = {{}, {0}, {0, 0}, {0, 0, 1}, {0, 2, 1, 0}, {0, 0, 7, 0}, {0, 0, 0, 1}, {0, 0, 1, 0, 0, 0},
            {0, 0, 202, 0}, {0, 0, 200, 8}, {0, 0, 199, 0}, {255, 0, 0, 0}, {0, 255, 1, 0},
            {0, 0, 1, 0, 2, 0, 3, 0, 4, 0, 5, 0, 6, 0}, {0, 0, 1, 0, 2}};
        for (int i = 0; i < wrongs.length; i++) {
            due("tape " + i, net(x, 1, wrongs[i]), -6);
            due("the tape is empty", x.count(8), 0);
            due("status", x.status(), -6);
        }
        due("refused", x.count(13), wrongs.length);
        due("no net", x.count(5), 0);
        due("what can be undone is the last cell", x.undo(), 2);
    }

    private static void drops() {
        promise = 9;
        CellRows x = withCells(2, 8, 2, 3);
        due("there is none", x.drop(0), -2);
        net(x, 1, 0, 0, 1, 0);
        net(x, 2, 0, 1, 1, 1, 200, 3);
        net(x, 3, 0, 1, 200, 5, 201, 6, 1, 2);
        due("below 0", x.drop(-1), -2);
        due("above", x.drop(3), -2);
        due("far above", x.drop(MOST), -2);
        due("pins", x.drop(1), 3);
        due("how many", x.count(5), 2);
        due("the first stays", x.netOf(0, 0), 1);
        due("the last moves down", x.netOf(1, 0), 3);
        due("its pins", x.netOf(1, 1), 4);
        due("its pins", x.netOf(1, 14), 201);
        due("its pins", x.netOf(1, 15), 6);
        due("its pins", x.netOf(1, 17), 2);
        due("no more", x.netOf(2, 0), -1);
        due("in two now", x.cellOf(0, 7), 2);
        due("the last", x.drop(1), 4);
        due("the first", x.drop(0), 2);
        due("wire", x.measure(0), 0);
        due("undone", x.undo(), 4);
        due("again there", x.netOf(0, 0), 1);
    }

    private static void wants() {
        promise = 10;
        CellRows x = withCells(3, 9, 4, 1);
        due("both", x.want(0, 0, 32), 40 + 16);
        wantDue(x, 0, 0, 32);
        due("the same", x.want(0, 0, 32), 0);
        due("greatest", x.want(0, 80, 0), 112);
        due("wider than it may", x.want(0, 81, 0), -4);
        due("as far as any may", x.want(0, 128, 0), -4);
        due("beyond that", x.want(0, 129, 0), -1);
        due("narrow ones may", x.want(1, 128, 32), 64 + 16);
        due("x", x.want(1, -1, 0), -1);
        due("y", x.want(1, 0, -1), -1);
        due("y", x.want(1, 0, 33), -1);
        due("no cell", x.want(2, 0, 0), -2);
        due("no cell", x.want(-1, 0, 0), -2);
        due("a wrong number ahead of no cell", x.want(-1, 129, 0), -1);
        x.fix(0, 0, 0);
        due("fixed", x.want(0, 0, 0), -4);
        wantDue(x, 0, 0, 0);
        x.put(1, 1, 1);
        due("with a spot", x.want(1, 16, 16), 128);
        spotDue(x, 1, 1, 1);
    }

    private static void fixes() {
        promise = 11;
        CellRows x = withCells(2, 16, 3, 2, 2, 1);
        x.put(0, 0, 4);
        x.put(1, 0, 7);
        x.put(2, 0, 2);
        due("row", x.fix(0, 2, 0), -1);
        due("row", x.fix(0, -1, 0), -1);
        due("site", x.fix(0, 0, 16), -1);
        due("site", x.fix(0, 0, -1), -1);
        due("site", x.fix(0, 0, MOST), -1);
        due("a wrong number ahead of no cell", x.fix(9, 0, 16), -1);
        due("no cell", x.fix(4, 0, 0), -2);
        due("beyond the chip", x.fix(0, 0, 14), -4);
        due("over its own place and two others", x.fix(0, 0, 5), 1);
        spotDue(x, 0, 0, 5);
        wantDue(x, 0, 80, 0);
        due("fixed", x.cellOf(0, 2), 1);
        spotDue(x, 1, -1, -1);
        spotDue(x, 2, 0, 2);
        due("it is fixed", x.fix(0, 0, 9), -4);
        due("on a fixed one", x.fix(1, 0, 7), -4);
        due("where one lies", x.fix(3, 0, 3), 1);
        spotDue(x, 2, -1, -1);
        x.block(1, 1, 0, 0, 0);
        x.fence(1, 1, 4, 7);
        due("barred", x.fix(1, 1, 0), -4);
        due("in a fence", x.fix(1, 1, 3), -4);
        due("between", x.fix(1, 1, 1), 0);
        due("of the fence", x.cell(2, 0), 4);
        due("partly out of its fence", x.fix(4, 1, 7), -4);
        due("in its fence", x.fix(4, 1, 6), 0);
        due("refused", x.count(11), 6);
    }

    private static void freesPutsTakes() {
        CellRows x = withCells(2, 8, 3, 2, 2);
        net(x, 2, 0, 0, 200, 7);
        x.fix(0, 1, 2);
        promise = 12;
        due("no cell", x.free(3), -2);
        due("no cell", x.free(-1), -2);
        due("loose", x.free(1), -4);
        due("its row", x.free(0), 1);
        spotDue(x, 0, 1, 2);
        wantDue(x, 0, 32, 16);
        due("loose now", x.cellOf(0, 2), 0);
        due("loose now", x.free(0), -4);
        promise = 13;
        due("wire", x.put(0, 1, 3), 2 * (64 + 4 * 16));
        due("over its own place", x.put(0, 1, 2), 2 * (80 + 4 * 16));
        due("row", x.put(0, 2, 0), -1);
        due("site", x.put(0, 0, 8), -1);
        due("a wrong number ahead of no cell", x.put(7, 0, -1), -1);
        due("no cell", x.put(7, 0, 0), -2);
        due("beyond the chip", x.put(0, 0, 6), -4);
        due("on another one", x.put(1, 1, 4), -4);
        due("beside it", x.put(1, 1, 5), 2 * (80 + 4 * 16));
        x.fix(2, 0, 0);
        due("fixed", x.put(2, 0, 0), -4);
        due("on a fixed one", x.put(1, 0, 1), -4);
        spotDue(x, 1, 1, 5);
        promise = 14;
        due("no cell", x.take(3), -2);
        due("fixed", x.take(2), -4);
        due("its row", x.take(1), 1);
        spotDue(x, 1, -1, -1);
        due("it has none", x.take(1), -4);
        due("undone", x.undo(), 9);
        spotDue(x, 1, 1, 5);
    }

    private static void starts() {
        promise = 15;
        CellRows x = withCells(4, 16, 2, 2, 1);
        due("n", x.start(0), -1);
        due("n", x.start(21), -1);
        due("no nets", x.start(20), 0);
        x.want(0, 0, 0);
        x.want(1, 224, 48);
        net(x, 1, 0, 1, 1, 0);
        // cell 0: 224 + 8 - 24 = 208, 48; then cell 1: 208 + 24 - 8 = 224, 48
        due("the first only", x.start(1), 1);
        wantDue(x, 0, 208, 48);
        wantDue(x, 1, 224, 48);
        due("nothing more", x.start(5), 0);
        // down: x (2 * (-8) + 1 * 3) / 3 goes downwards
        CellRows y = withCells(2, 16, 1, 1);
        y.want(1, 3, 1);
        net(y, 2, 0, 0, 200, 0);
        net(y, 1, 0, 0, 1, 0);
        due("one, then the other", y.start(1), 2);
        wantDue(y, 0, 1, 0);
        wantDue(y, 1, 1, 0);
        CellRows z = withCells(1, 16, 3, 1);
        z.want(1, 10, 0);
        z.fix(1, 0, 0);
        net(z, 1, 0, 2, 1, 0);
        due("below 0 is held", z.start(1), 1);
        wantDue(z, 0, 0, 0);
        due("fixed ones stay", z.cellOf(1, 3), 0);
    }

    private static void startsHeld() {
        promise = 15;
        CellRows x = new CellRows(4, 16);
        x.fence(1, 2, 4, 7);
        x.cell(3, 0);
        x.cell(6, 0);
        x.cell(2, 0);
        net(x, 1, 0, 0, 203, 15);
        net(x, 1, 1, 0, 200, 15);
        due("each in a net is held", x.start(1), 2);
        wantDue(x, 0, 80, 32);
        wantDue(x, 1, 64, 16);
        wantDue(x, 2, 112, 24);
        x.drop(0);
        net(x, 1, 0, 0, 200, 0);
        due("to the other ends", x.start(1), 1);
        wantDue(x, 0, 64, 16);
        CellRows y = new CellRows(1, 8);
        y.fence(0, 0, 6, 7);
        y.cell(4, 0);
        net(y, 1, 0, 0, 200, 7);
        due("the fence first, then the chip", y.start(1), 1);
        wantDue(y, 0, 64, 0);
        due("it stays so", y.start(1), 0);
    }

    private static void spreads() {
        promise = 16;
        CellRows x = withCells(1, 16, 4, 4);
        due("n", x.spread(0), -1);
        due("n", x.spread(11), -1);
        x.terms(1, 50);
        x.terms(3, 64);
        x.want(0, 64, 0);
        x.want(1, 64, 0);
        due("over", x.bin(0, 2), 1024);
        due("cost", x.measure(3), 4096);
        due("to the right", x.spread(1), 4096);
        wantDue(x, 0, 128, 0);
        wantDue(x, 1, 64, 0);
        due("nothing to win", x.spread(10), 0);
        due("undone", x.undo(), 11);
        due("undone", x.undo(), 11);
        wantDue(x, 0, 64, 0);
        CellRows y = withCells(2, 8, 1, 1);
        y.want(0, 64, 8);
        y.want(1, 64, 8);
        net(y, 3, 0, 0, 200, 0);
        // by x alone: far 64 has a 16th of the share, 64 * 256 / 4352 = 3: 58; by y: far 8: 8 - 4 - 4 = 0
        due("smooth", y.measure(1), 3 * 58);
        // to the left: far 48 has an 8th: 48 * 512 / 4608 = 5: 38; down and right are dearer
        due("closer", y.spread(1), 16 * 3 * (58 - 38));
        wantDue(y, 0, 48, 8);
        due("no net, nothing to win: as it is", y.cellOf(1, 3), 64);
        y.terms(3, 8);
        // at 48: left by 8: far 40 has a 4th: 40 * 1024 / 5120 = 8: 24
        due("a shorter step", y.spread(1), 16 * 3 * (38 - 24));
    }

    private static void spreadsHeld() {
        promise = 16;
        CellRows x = new CellRows(2, 16);
        x.fence(0, 0, 8, 11);
        x.cell(4, 0);
        x.terms(0, 64);
        net(x, 1, 0, 0, 201, 15);
        wantDue(x, 0, 96, 8);
        // as it is 144 far by x, to the left it is held at 128: 112 far, and held to row 0
        int before = x.measure(3);
        int won = x.spread(1);
        wantDue(x, 0, 128, 0);
        due("what was won", won, before - x.measure(3));
        due("held, it stays", x.spread(3), 0);
        CellRows y = withCells(1, 8, 6);
        net(y, 1, 0, 0, 200, 0);
        y.fix(0, 0, 2);
        due("fixed ones stay", y.spread(3), 0);
        wantDue(y, 0, 32, 0);
        y.free(0);
        due("loose ones do not", y.spread(2) > 0, true);
        wantDue(y, 0, 0, 0);
    }

    private static void legalOrder() {
        promise = 17;
        CellRows x = withCells(1, 8, 1, 1, 1);
        for (int cell = 0; cell < 3; cell++) {
            x.want(cell, 24, 0);
        }
        due("of like ones the leftmost", x.legal(), 40);
        spotDue(x, 0, 0, 0);
        spotDue(x, 1, 0, 1);
        spotDue(x, 2, 0, 2);
        x.want(2, 23, 0);
        due("by x of want", x.legal(), 23 + 8 + 8);
        spotDue(x, 2, 0, 0);
        spotDue(x, 0, 0, 1);
        spotDue(x, 1, 0, 2);
        CellRows y = withCells(1, 8, 3, 1);
        y.want(0, 80, 0);
        y.want(1, 81, 0);
        // together: 3 at 4 and 1 at 7: 48 + 31; the wide one stays at 5 is no room for the other: it must give way
        due("weighed by width", y.legal(), 3 * 16 + 31);
        spotDue(y, 0, 0, 4);
        spotDue(y, 1, 0, 7);
    }

    private static void legalRuns() {
        promise = 17;
        CellRows x = withCells(3, 8, 2, 2, 2);
        x.terms(4, 1);
        x.want(0, 0, 8);
        x.want(1, 0, 8);
        x.want(2, 0, 8);
        // rows 0 and 1 are as near: the lowest; then the other; then behind the first at 2: 64 + 16, or row 2: 48
        due("moves", x.legal(), 16 + 16 + 48);
        spotDue(x, 0, 0, 0);
        spotDue(x, 1, 1, 0);
        spotDue(x, 2, 2, 0);
        CellRows y = new CellRows(2, 8);
        y.fence(1, 1, 0, 3);
        y.cell(2, 0);
        y.cell(2, -1);
        y.want(0, 96, 0);
        y.want(1, 0, 16);
        y.terms(4, 8);
        due("in its fence, out of any", y.legal(), 2 * (64 + 128) + 2 * 64);
        spotDue(y, 0, 1, 2);
        spotDue(y, 1, 1, 4);
        due("fixed ones are no ground", y.fix(1, 1, 4), 0);
        due("none is moved by them", y.cellOf(1, 2), 1);
        due("fixed ones count no moves", y.legal(), 2 * (64 + 128));
        CellRows z = withCells(1, 8, 2, 2);
        z.want(0, 96, 0);
        z.want(1, 0, 0);
        z.block(0, 0, 3, 4, 0);
        due("each in its run", z.legal(), 0);
        spotDue(z, 0, 0, 6);
        spotDue(z, 1, 0, 0);
    }

    private static void legalWithoutRoom() {
        promise = 17;
        CellRows x = withCells(1, 8, 6, 2);
        due("full", x.legal() >= 0, true);
        due("there", x.cellOf(0, 5), 0);
        x.cell(1, -1);
        int kept = x.count(7);
        due("no room", x.legal(), -5);
        due("status", x.status(), -5);
        due("refused", x.count(12), 1);
        due("all lies as it did", x.cellOf(0, 5) + x.cellOf(1, 5), 0);
        due("nothing to be undone more", x.count(7), kept);
        CellRows y = withCells(1, 8, 3, 3);
        y.block(0, 0, 2, 4, 0);
        due("one run has room for one alone", y.legal(), -5);
        CellRows z = new CellRows(2, 8);
        z.fence(0, 0, 0, 1);
        z.cell(3, 0);
        due("its fence is too narrow", z.legal(), -5);
    }

    private static void windowsGaps() {
        promise = 18;
        CellRows x = withCells(1, 8, 1, 2, 1);
        due("k", x.windows(1), -1);
        due("k", x.windows(5), -1);
        x.put(0, 0, 0);
        x.put(1, 0, 3);
        x.put(2, 0, 5);
        net(x, 9, 2, 0, 200, 0);
        net(x, 9, 0, 0, 200, 7);
        due("four side by side there are not", x.windows(4), 0);
        due("the other way round", x.windows(3), 1440);
        spotDue(x, 2, 0, 0);
        spotDue(x, 1, 0, 3);
        spotDue(x, 0, 0, 5);
        due("undone", x.undo(), 13);
        // two by two: 0 1 stays ahead of 1 0? 1 at 0, 0 at 4: nearer to 7; then 0 2: 2 at 4, 0 at 5
        due("two by two", x.windows(2), 9 * (80 + 16));
        spotDue(x, 1, 0, 0);
        spotDue(x, 2, 0, 4);
        spotDue(x, 0, 0, 5);
    }

    private static void windowsOrder() {
        promise = 18;
        CellRows x = withCells(2, 8, 1, 1, 1);
        x.put(0, 0, 0);
        x.put(1, 0, 1);
        x.put(2, 1, 2);
        net(x, 1, 0, 0, 1, 0);
        due("of like ones as they lie", x.windows(2), 0);
        spotDue(x, 0, 0, 0);
        spotDue(x, 1, 0, 1);
        CellRows y = withCells(1, 9, 1, 1, 1, 1);
        for (int cell = 0; cell < 3; cell++) {
            y.put(cell, 0, cell);
        }
        y.fix(3, 0, 3);
        net(y, 1, 2, 0, 200, 0);
        // 2 first: of 2 0 1 and 2 1 0 the first by their places
        due("the first of like ones", y.windows(3), 32);
        spotDue(y, 2, 0, 0);
        spotDue(y, 0, 0, 1);
        spotDue(y, 1, 0, 2);
        y.put(0, 0, 4);
        due("not across a fixed one", net(y, 1, 0, 0, 200, 0), 1);
        due("not across a fixed one", y.windows(2), 0);
        CellRows z = new CellRows(1, 8);
        z.fence(0, 0, 4, 7);
        z.cell(1, 0);
        z.cell(1, 0);
        z.cell(1, -1);
        z.put(0, 0, 4);
        z.put(1, 0, 5);
        z.put(2, 0, 3);
        net(z, 1, 0, 0, 200, 7);
        due("in a fence, too", z.windows(2), 16);
        spotDue(z, 0, 0, 5);
        due("not across its border", net(z, 5, 2, 0, 200, 7), 1);
        due("not across its border", z.windows(2), 0);
    }

    private static void swapsAndTies() {
        promise = 19;
        CellRows x = withCells(2, 8, 2, 1, 2, 2);
        x.put(0, 0, 0);
        x.put(1, 0, 4);
        x.put(2, 1, 6);
        net(x, 1, 0, 0, 201, 6);
        net(x, 1, 1, 0, 201, 6);
        due("like ones alone", x.swaps(), 96 + 64);
        spotDue(x, 0, 1, 6);
        spotDue(x, 2, 0, 0);
        spotDue(x, 1, 0, 4);
        spotDue(x, 3, -1, -1);
        net(x, 1, 2, 0, 201, 6);
        due("not for as much", x.swaps(), 0);
        spotDue(x, 0, 1, 6);
        x.drop(0);
        x.fix(0, 1, 6);
        due("fixed ones stay", x.swaps(), 0);
        CellRows y = new CellRows(1, 8);
        y.fence(0, 0, 4, 7);
        y.cell(1, 0);
        y.cell(1, -1);
        y.put(0, 0, 4);
        y.put(1, 0, 0);
        net(y, 1, 0, 0, 200, 0);
        due("not out of a fence", y.swaps(), 0);
        due("told by undo", y.undo(), 14);
        CellRows z = withCells(1, 8, 1, 1, 1);
        z.put(0, 0, 1);
        z.put(1, 0, 0);
        z.want(2, 15, 0);
        net(z, 1, 0, 0, 2, 0, 200, 0);
        // the pins at 8 and 23 stay; the third goes from 24 to 8
        due("for one unit, too", z.swaps(), 1);
        spotDue(z, 0, 0, 0);
        CellRows w = withCells(1, 9, 1, 1, 1);
        for (int cell = 0; cell < 3; cell++) {
            w.put(cell, 0, 2 * cell);
            net(w, 1, cell, 0, 200, cell == 0 ? 8 : 0);
        }
        // 0 with 1: 0 wins 32, 1 wins 32; 0, now at 2, with 2: 32 and 32; 1, now at 0, with 2, now at 2: as much
        due("two by two, rising", w.swaps(), 128);
        spotDue(w, 0, 0, 4);
        spotDue(w, 1, 0, 0);
        spotDue(w, 2, 0, 2);
    }

    private static void hopsAndTies() {
        promise = 20;
        CellRows x = withCells(3, 8, 2, 1, 2);
        x.put(0, 2, 6);
        x.put(2, 0, 0);
        net(x, 1, 0, 0, 200, 0);
        // site 0 of row 0 is taken: 2 of row 0 is 32 far, 0 of row 1 is 64 far
        due("the nearest free one", x.hops(), 96 + 128 - 32);
        spotDue(x, 0, 0, 2);
        spotDue(x, 1, -1, -1);
        due("no more", x.hops(), 0);
        CellRows y = withCells(2, 8, 1, 1);
        y.terms(4, 1);
        y.put(0, 1, 7);
        y.put(1, 0, 3);
        net(y, 1, 0, 0, 200, 3);
        // row 0: sites 2 and 4 are 16 far; row 1: site 3 is 16 far: the lowest row, the first site
        due("of like ones the first", y.hops(), 80 - 16);
        spotDue(y, 0, 0, 2);
        y.put(0, 1, 3);
        due("none for as much", y.hops(), 0);
        spotDue(y, 0, 1, 3);
        y.fix(0, 1, 7);
        due("fixed ones stay", y.hops(), 0);
    }

    private static void sortsGroups() {
        promise = 21;
        CellRows x = withCells(1, 8, 1, 1, 1);
        x.put(0, 0, 0);
        x.put(1, 0, 3);
        x.put(2, 0, 6);
        net(x, 1, 0, 0, 200, 3);
        net(x, 1, 1, 0, 200, 6);
        net(x, 1, 2, 0, 200, 0);
        due("all three around", x.sorts(), 192);
        spotDue(x, 0, 0, 3);
        spotDue(x, 1, 0, 6);
        spotDue(x, 2, 0, 0);
        due("undone", x.undo(), 16);
        net(x, 1, 0, 0, 1, 0);
        // now 0 and 1 have a net in common: the group is 0 and 2: they stay at 0 and 6 or change
        // 0: 48 + 48 at 0, 48 + 48 at 6; 2: 96 at 6, 0 at 0
        due("without what has a net in common", x.sorts(), 96);
        spotDue(x, 1, 0, 3);
        spotDue(x, 0, 0, 6);
        spotDue(x, 2, 0, 0);
        CellRows y = withCells(1, 8, 1, 1, 1, 1, 1, 1);
        for (int cell = 0; cell < 6; cell++) {
            y.put(cell, 0, cell);
        }
        net(y, 1, 5, 0, 200, 0);
        due("five at most", y.sorts(), 0);
        net(y, 1, 4, 0, 200, 0);
        // 4 to the spot of 0; of like ones the first: 0 gets the spot of 1, 1 of 2 and so on
        due("the fifth is in it", y.sorts(), 64);
        spotDue(y, 4, 0, 0);
        spotDue(y, 0, 0, 1);
        spotDue(y, 1, 0, 2);
        spotDue(y, 2, 0, 3);
        spotDue(y, 3, 0, 4);
        spotDue(y, 5, 0, 5);
        CellRows z = withCells(1, 8, 2, 1, 2);
        z.put(0, 0, 0);
        z.put(1, 0, 2);
        z.put(2, 0, 6);
        z.fix(2, 0, 6);
        net(z, 1, 0, 0, 200, 7);
        due("like widths, loose ones", z.sorts(), 0);
        CellRows w = new CellRows(2, 32);
        w.fence(1, 1, 0, 31);
        for (int cell = 0; cell < 4; cell++) {
            w.cell(6, cell / 2 - 1);
            w.put(cell, cell / 2, cell % 2 * 10);
            net(w, 1, cell, 0, 200 + cell / 2, cell % 2 == 0 ? 10 : 0);
        }
        due("the widest, of no fence and of a fence", w.sorts(), 4 * 160);
        spotDue(w, 0, 0, 10);
        spotDue(w, 3, 1, 0);
    }

    private static void shakes() {
        promise = 22;
        CellRows x = new CellRows(1, 8);
        due("a wrong number ahead of no cell", x.shake(0, 0, 0), -1);
        due("no cell", x.shake(0, 1, 0), -4);
        x.cell(1, -1);
        x.cell(1, -1);
        int[][] wrongs = {{-1, 1, 0}, {1000001, 1, 0}, {0, 0, 0}, {0, 61, 0}, {0, 1, -1}, {0, 1, 10000}};
        for (int[] w : wrongs) {
            due("a number that can't be", x.shake(w[0], w[1], w[2]), -1);
        }
        due("without spots", x.shake(1000000, 60, 9999), 0);
        x.put(0, 0, 0);
        x.put(1, 0, 5);
        net(x, 1, 0, 0, 200, 7);
        // the seed 1 draws 13448, 845447: the cells 0 and 1
        due("exchanged", x.shake(1, 1, 0), 80);
        spotDue(x, 0, 0, 5);
        spotDue(x, 1, 0, 0);
        due("not more than the heat above", x.shake(1, 1, 9999), 0);
        spotDue(x, 0, 0, 5);
        due("undone", x.undo(), 17);
        due("undone", x.undo(), 17);
        spotDue(x, 0, 0, 0);
        // the seed 0 draws 12345 and 628841: the cells 1 and 1
        due("the same one twice", x.shake(0, 1, 0), 0);
        spotDue(x, 0, 0, 0);
        x.drop(0);
        due("for as much, but the first time counts", x.shake(1, 1, 0), 0);
        spotDue(x, 0, 0, 0);
    }

    private static void shakesHot() {
        promise = 22;
        // three cells in a row; the pairs that each seed draws are worked out here as the document tells
        for (int seed = 0; seed < 40; seed++) {
            for (int heat = 0; heat <= 64; heat += 16) {
                CellRows x = withCells(1, 8, 1, 1, 1);
                int[] site = {0, 3, 6};
                int[] goal = {3, 6, 0};
                for (int cell = 0; cell < 3; cell++) {
                    x.put(cell, 0, site[cell]);
                    net(x, 1, cell, 0, 200, goal[cell]);
                }
                int[] best = shaken(seed, 12, heat, site, goal);
                int before = x.measure(0);
                due("won", x.shake(seed, 12, heat), before - length(best, goal));
                for (int cell = 0; cell < 3; cell++) {
                    spotDue(x, cell, 0, best[cell]);
                }
            }
        }
    }

    private static int length(int[] site, int[] goal) {
        int all = 0;
        for (int cell = 0; cell < 3; cell++) {
            all += 16 * Math.abs(site[cell] - goal[cell]);
        }
        return all;
    }

    private static int[] shaken(long seed, int n, int heat, int[] first, int[] goal) {
        int[] site = first.clone();
        int[] best = first.clone();
        long s = seed;
        for (int i = 0; i < n; i++, heat = heat * 7 / 8) {
            s = (s * 1103 + 12345) % 1000003;
            int a = (int) (s % 3);
            s = (s * 1103 + 12345) % 1000003;
            int b = (int) (s % 3);
            int[] then = site.clone();
            then[a] = site[b];
            then[b] = site[a];
            site = length(then, goal) <= length(site, goal) + heat ? then : site;
            best = length(site, goal) < length(best, goal) ? site : best;
        }
        return best;
    }

    private static void undoes() {
        promise = 23;
        CellRows x = new CellRows(2, 8);
        due("nothing", x.undo(), -4);
        x.cell(1, -1);
        x.cell(1, -1);
        x.block(0, 0, 0, 0, 0);
        x.fence(1, 1, 0, 3);
        net(x, 1, 0, 0, 1, 0);
        x.drop(0);
        x.want(0, 0, 0);
        x.fix(0, 0, 3);
        x.free(0);
        x.put(0, 0, 4);
        x.take(0);
        for (int code : new int[] {9, 8, 7, 6, 5, 4, 3, 1, 0, 2, 2, -4}) {
            due("acts", x.undo(), code);
        }
        due("cells", x.count(4), 0);
        due("fences", x.count(3), 0);
        due("blocks", x.count(2), 0);
        x.cell(1, -1);
        x.start(1);
        x.spread(1);
        x.legal();
        x.windows(2);
        x.swaps();
        x.hops();
        x.sorts();
        x.shake(0, 1, 0);
        x.shake(0, 99, 0);
        due("can be undone", x.count(7), 9);
        for (int code : new int[] {17, 16, 15, 14, 13, 12, 11, 10, 2, -4}) {
            due("passes", x.undo(), code);
        }
    }

    private static void undoKeeps() {
        promise = 23;
        CellRows x = new CellRows(2, 8);
        for (int i = 0; i < 14; i++) {
            x.cell(1, -1);
        }
        due("twelve are kept", x.count(7), 12);
        x.terms(0, 5);
        x.feed(0, 0, 0, 0, 0);
        due("a refused one", x.cell(9, 0), -1);
        for (int i = 0; i < 12; i++) {
            due("back", x.undo(), 2);
            due("status", x.status(), 0);
        }
        due("no more", x.undo(), -4);
        due("status", x.status(), -4);
        due("the first two stay", x.count(4), 2);
        due("terms stay", x.count(14), 5);
        due("the tape stays", x.count(8), 20);
        due("and anew", x.cell(1, -1), 2);
        x.want(2, 0, 0);
        x.put(2, 0, 0);
        x.fix(2, 1, 3);
        due("fix", x.undo(), 6);
        spotDue(x, 2, 0, 0);
        wantDue(x, 2, 0, 0);
        due("loose again", x.cellOf(2, 2), 0);
        x.block(0, 1, 0, 7, 0);
        spotDue(x, 2, -1, -1);
        due("block", x.undo(), 0);
        spotDue(x, 2, 0, 0);
        due("a tape that was read is not brought back", net(x, 1, 0, 0, 1, 0), 0);
        due("net", x.undo(), 3);
        due("the tape stays empty", x.count(8), 0);
    }

    private static void tellsCells() {
        promise = 24;
        CellRows x = withCells(3, 16, 3, 1);
        net(x, 1, 0, 0, 1, 0);
        net(x, 1, 0, 2, 200, 0);
        x.want(0, 100, 20);
        due("no move without a spot", x.cellOf(0, 8), -1);
        x.put(0, 2, 5);
        int[] dues = {3, -1, 0, 100, 20, 2, 5, 2, 3 * (20 + 4 * 12)};
        for (int what = 0; what < dues.length; what++) {
            due("what " + what, x.cellOf(0, what), dues[what]);
        }
        due("nets", x.cellOf(1, 7), 1);
        x.terms(4, 8);
        due("taller", x.cellOf(0, 8), 3 * (20 + 8 * 12));
        x.fix(0, 2, 5);
        due("fixed", x.cellOf(0, 2), 1);
        due("at its want", x.cellOf(0, 8), 0);
        for (int what : new int[] {-1, 9, LEAST, MOST}) {
            due("no such", x.cellOf(0, what), -1);
        }
        for (int cell : new int[] {-1, 2, LEAST, MOST}) {
            due("no such cell", x.cellOf(cell, 0), -1);
        }
        due("no refusals", x.count(9) + x.count(10), 0);
    }

    private static void tellsNets() {
        promise = 25;
        CellRows x = withCells(4, 16, 2);
        net(x, 7, 200, 0, 200, 1, 200, 12);
        net(x, 2, 200, 3, 203, 3);
        net(x, 1, 0, 1, 203, 15);
        due("weight", x.netOf(0, 0), 7);
        due("pins", x.netOf(0, 1), 3);
        due("span", x.netOf(0, 2), 192);
        // upper: (192 * 1 + 176 * 2) / 4099 = 0; lower: (16 * 2048 + 192) / 6145 = 5
        due("smooth", x.netOf(0, 3), 200 - 13);
        due("span of rows", x.netOf(1, 2), 4 * 48);
        // far 48 has an 8th: 48 * 512 / 4608 = 5 on either side
        due("smooth of rows", x.netOf(1, 3), 4 * 38);
        x.terms(0, 64);
        // upper: (192 * 512 + 176 * 1024) / 5632 = 49; lower: (16 * 4096 + 192 * 512) / 8704 = 18
        due("gamma", x.netOf(0, 3), 151 - 26);
        x.terms(0, 1);
        due("thirteen halvings and more: no share", x.netOf(0, 3), 192);
        int[] dues = {200, 0, 200, 1, 200, 12};
        for (int i = 0; i < 6; i++) {
            due("pin byte " + i, x.netOf(0, 10 + i), dues[i]);
        }
        due("cell", x.netOf(2, 10), 0);
        due("offset", x.netOf(2, 11), 1);
        due("pad", x.netOf(2, 12), 203);
        due("no third pin", x.netOf(2, 14), -1);
        // at its want: 112 + 24 = 136 to 248, 24 + 8 = 32 to 56
        due("at its want", x.netOf(2, 2), 112 + 4 * 24);
        x.put(0, 3, 14);
        due("at its spot", x.netOf(2, 2), 0);
        due("smooth at its want", x.netOf(2, 3) > 0, true);
        for (int what : new int[] {-1, 4, 9, 16, LEAST, MOST}) {
            due("no such", x.netOf(0, what), -1);
        }
        due("no such net", x.netOf(3, 0), -1);
        due("no such net", x.netOf(-1, 0), -1);
    }

    private static void tellsBins() {
        promise = 26;
        CellRows x = new CellRows(3, 18);
        due("bins", x.count(6), 6);
        int[] supplies = {4096, 4096, 1024, 2048, 2048, 512};
        for (int bin = 0; bin < 6; bin++) {
            due("supply of " + bin, x.bin(bin, 0), supplies[bin]);
        }
        x.block(1, 2, 7, 7, 1);
        due("barred", x.bin(0, 0), 4096 - 512);
        due("barred", x.bin(1, 0), 4096 - 256);
        due("barred", x.bin(3, 0), 2048 - 512);
        x.cell(4, -1);
        x.want(0, 100, 20);
        // 28 of 64 to the left, 12 of 16 below
        due("need", x.bin(0, 1), 28 * 12);
        due("need", x.bin(1, 1), 36 * 12);
        due("need", x.bin(3, 1), 28 * 4);
        due("need", x.bin(4, 1), 36 * 4);
        due("need", x.bin(2, 1), 0);
        x.terms(1, 10);
        // 3840 by 10 is 384
        due("over", x.bin(1, 2), 36 * 12 - 384);
        due("not over", x.bin(0, 2), 0);
        x.terms(1, 11);
        // 3840 * 11 / 100 = 422.4
        due("downwards", x.bin(1, 2), 432 - 422);
        x.fix(0, 0, 6);
        due("a fixed one needs nothing", x.bin(1, 1), 0);
        due("and takes away", x.bin(0, 0), 4096 - 512 - 512);
        due("and takes away", x.bin(1, 0), 4096 - 256 - 512);
        for (int what : new int[] {-1, 4, LEAST, MOST}) {
            due("no such", x.bin(0, what), -1);
        }
        due("no such bin", x.bin(6, 0), -1);
        due("no such bin", x.bin(-1, 3), -1);
    }

    private static void measures() {
        promise = 27;
        CellRows x = withCells(2, 16, 2, 2, 1);
        x.want(0, 0, 0);
        x.want(1, 100, 10);
        x.put(0, 1, 3);
        x.put(1, 0, 9);
        net(x, 3, 0, 0, 1, 1);
        due("wire", x.measure(0), 3 * (112 + 64));
        // wants: 8 and 124, far 116 has a 128th: 116 * 32 / 4128 = 0; 8 and 18, far 10: 10 - 5 - 5
        due("smooth", x.measure(1), 3 * 116);
        due("overflow", x.measure(2), 0);
        due("cost", x.measure(3), 16 * 3 * 116);
        due("moves", x.measure(4), 2 * (48 + 64) + 2 * (44 + 40));
        due("without spots", x.measure(5), 1);
        x.terms(1, 10);
        x.terms(2, 99);
        // needs 512 and 512: 28 of 32 left of 128 and 4 right: 0: 512 + 448 + 128 - 409 = 679 with cell 2 at 120: 8 * 16
        due("overflow", x.measure(2), 512 + 448 + 128 - 409);
        due("cost", x.measure(3), 16 * 3 * 116 + 99 * 679);
        x.terms(2, 0);
        due("no pressure", x.measure(3), 16 * 3 * 116);
        due("no such", x.measure(-1), -1);
        due("no such", x.measure(9), -1);
        due("no such", x.measure(MOST), -1);
    }

    private static void demands() {
        promise = 27;
        CellRows x = withCells(4, 24, 1);
        due("no nets", x.measure(6), 0);
        due("the first bin", x.measure(7), 0);
        due("none above", x.measure(8), 0);
        net(x, 4, 200, 7, 203, 8);
        net(x, 3, 202, 8, 203, 23);
        int[] dues = {4, 4, 0, 4, 7, 3};
        promise = 26;
        for (int bin = 0; bin < 6; bin++) {
            due("demand of " + bin, x.bin(bin, 3), dues[bin]);
        }
        promise = 27;
        due("greatest", x.measure(6), 7);
        due("where", x.measure(7), 4);
        due("above 6", x.measure(8), 1);
        x.terms(5, 7);
        due("not above 7", x.measure(8), 0);
        x.terms(5, 3);
        due("above 3", x.measure(8), 4);
        net(x, 3, 200, 0, 0, 0);
        // the pin is at 192, 32: the lowest y of the bin 4
        due("up to the bin 4", x.measure(6), 10);
        x.want(0, 184, 23);
        // just below that: the bins 0 and 1 have 7, as the bin 4 has
        due("greatest", x.measure(6), 7);
        due("the first with it", x.measure(7), 0);
        x.put(0, 3, 23);
        due("by its spot", x.bin(2, 3), 3);
    }

    private static void tellsLawful() {
        promise = 28;
        CellRows x = withCells(2, 8, 3, 2, 1);
        x.put(0, 0, 2);
        x.fix(1, 1, 2);
        due("itself aside", x.lawful(0, 0, 3), true);
        due("itself aside, fixed", x.lawful(1, 1, 3), true);
        due("on another", x.lawful(1, 0, 4), false);
        due("beside it", x.lawful(1, 0, 5), true);
        due("on a fixed one", x.lawful(0, 1, 3), false);
        due("at the end", x.lawful(0, 0, 5), true);
        due("beyond it", x.lawful(0, 0, 6), false);
        due("far beyond it", x.lawful(0, 0, MOST), false);
        due("far ahead", x.lawful(0, 0, LEAST), false);
        due("no row", x.lawful(0, 2, 0), false);
        due("no row", x.lawful(0, -1, 0), false);
        due("no cell", x.lawful(3, 0, 0), false);
        due("no cell", x.lawful(-1, 0, 0), false);
        x.block(0, 0, 7, 7, 0);
        due("barred", x.lawful(2, 0, 7), false);
        x.fence(1, 1, 5, 6);
        due("in a fence", x.lawful(2, 1, 5), false);
        x.cell(2, 0);
        due("in its fence", x.lawful(3, 1, 5), true);
        due("partly out of it", x.lawful(3, 1, 4), false);
        due("out of it", x.lawful(3, 0, 0), false);
        due("no refusals", x.count(9) + x.count(10) + x.count(11), 0);
    }

    private static void tellsRuns() {
        CellRows x = withCells(2, 16, 2, 3, 1, 2);
        x.block(0, 0, 8, 8, 0);
        x.fix(3, 0, 2);
        x.fence(0, 1, 12, 13);
        promise = 29;
        due("between", x.runs(0, -1), 4);
        due("of the fence", x.runs(1, 0), 1);
        due("no row", x.runs(2, -1), -1);
        due("no row", x.runs(-1, -1), -1);
        due("no fence", x.runs(0, 1), -1);
        due("no fence", x.runs(0, -2), -1);
        promise = 30;
        int[] firsts = {0, 4, 9, 14};
        int[] lengths = {2, 4, 3, 2};
        for (int i = 0; i < 4; i++) {
            due("first", x.run(0, -1, i, 0), firsts[i]);
            due("length", x.run(0, -1, i, 1), lengths[i]);
        }
        due("no fifth", x.run(0, -1, 4, 0), -1);
        due("below 0", x.run(0, -1, -1, 0), -1);
        x.put(0, 1, 6);
        x.put(1, 1, 0);
        x.put(2, 1, 4);
        x.want(1, 48, 16);
        x.want(2, 0, 16);
        x.want(0, 16, 16);
        due("lying", x.run(1, -1, 0, 2), 3);
        due("free", x.run(1, -1, 0, 3), 12 - 6);
        due("first", x.run(1, -1, 0, 10), 1);
        due("second", x.run(1, -1, 0, 11), 2);
        due("third", x.run(1, -1, 0, 12), 0);
        due("no fourth", x.run(1, -1, 0, 13), -1);
        // 1 at 0, 2 at 3, 0 at 4: 144 + 48 + 96
        due("least", x.run(1, -1, 0, 4), 3 * 48 + 48 + 2 * 48);
        due("least of none", x.run(1, -1, 1, 4), 0);
        due("none lying", x.run(1, -1, 1, 2), 0);
        for (int what : new int[] {-1, 5, 9, LEAST, MOST}) {
            due("no such", x.run(1, -1, 0, what), -1);
        }
        due("no row", x.run(2, -1, 0, 0), -1);
        due("no fence", x.run(0, 1, 0, 0), -1);
    }

    private static void wouldAndBest() {
        CellRows x = withCells(3, 8, 2, 2);
        net(x, 2, 0, 1, 202, 2);
        net(x, 1, 0, 0, 200, 6);
        net(x, 1, 1, 0, 200, 0);
        x.put(1, 0, 0);
        promise = 31;
        // 0 at 0, 0: pin 1 at 24: 2 * (16 + 128), pin 0 at 8: 96
        due("whatever is there", x.would(0, 0, 0), 2 * (16 + 128) + 96);
        due("nothing is changed", x.cellOf(0, 5), -1);
        due("without a spot there is none", x.best(0, 0), -1);
        due("at the end", x.would(0, 2, 6), 2 * 80 + 128);
        due("beyond it", x.would(0, 2, 7), -1);
        due("far beyond it", x.would(0, 2, MOST), -1);
        due("ahead", x.would(0, 0, -1), -1);
        due("no row", x.would(0, 3, 0), -1);
        due("no row", x.would(0, -1, 0), -1);
        due("no cell", x.would(2, 0, 0), -1);
        due("no cell", x.would(-1, 0, 0), -1);
        x.fix(0, 1, 4);
        due("a fixed one, too", x.would(0, 2, 6), 2 * 80 + 128);
        promise = 32;
        // by site s: 2 * 16 * |s + 1 - 2| + 16 * |s - 6|, the least at 1; the rows are 2 * 64 + 64
        due("first", x.best(0, 0), 1);
        due("last", x.best(0, 1), 1);
        due("wire", x.best(0, 2), 80 + 128 + 64);
        x.drop(0);
        net(x, 1, 0, 1, 202, 2);
        // |s - 1| + |s - 6|: from 1 to 6
        due("first", x.best(0, 0), 1);
        due("last", x.best(0, 1), 6);
        due("wire", x.best(0, 2), 80 + 64 + 64);
        due("of a cell at its best", x.best(1, 1), 0);
        due("no such", x.best(0, 3), -1);
        due("no such", x.best(0, -1), -1);
        due("no cell", x.best(2, 0), -1);
        due("no cell", x.best(-1, 0), -1);
        CellRows y = withCells(1, 8, 6);
        y.put(0, 0, 2);
        due("no nets: all sites", y.best(0, 0), 0);
        due("no nets: all sites", y.best(0, 1), 2);
    }

    private static void onPaper() {
        promise = 33;
        CellRows x = withCells(1, 8, 2, 2);
        x.want(0, 96, 0);
        x.want(1, 90, 0);
        net(x, 1, 0, 0, 1, 0);
        x.put(0, 0, 0);
        int kept = x.count(7);
        // 1 at 4, 0 at 6: 2 * 26 + 0
        due("moves", x.lawfully(0), 52);
        due("wire", x.lawfully(1), 32);
        spotDue(x, 0, 0, 0);
        spotDue(x, 1, -1, -1);
        due("no such", x.lawfully(2), -1);
        due("no such", x.lawfully(-1), -1);
        due("as told", x.legal(), 52);
        due("as told", x.measure(0), 32);
        due("one act", x.count(7), kept + 1);
        x.cell(6, -1);
        due("no room", x.lawfully(0), -5);
        due("no room", x.lawfully(1), -1);
        due("status", x.status(), 0);
        due("no refusal", x.count(12), 0);
    }

    private static void fills() {
        promise = 34;
        CellRows x = withCells(1, 32, 1, 2);
        // 32: eight of 4
        due("4", x.fillers(4), 8);
        due("2", x.fillers(2), 0);
        due("1", x.fillers(1), 0);
        x.put(0, 0, 7);
        x.put(1, 0, 15);
        // gaps 7, 7, 15
        due("4", x.fillers(4), 1 + 1 + 3);
        due("2", x.fillers(2), 3);
        due("1", x.fillers(1), 3);
        x.fence(0, 0, 20, 22);
        // gaps 7, 7, 3 | 3 | 9
        due("4", x.fillers(4), 1 + 1 + 2);
        due("2", x.fillers(2), 4);
        due("1", x.fillers(1), 5);
        x.block(0, 0, 0, 5, 1);
        // gaps none, 7, 3 | 3 | 9
        due("4", x.fillers(4), 3);
        due("2", x.fillers(2), 3);
        due("1", x.fillers(1), 4);
        for (int width : new int[] {0, 3, 5, 8, -1, LEAST, MOST}) {
            due("no such", x.fillers(width), -1);
        }
    }

    private static void counts() {
        promise = 35;
        CellRows x = new CellRows(5, 17);
        x.block(0, 0, 0, 0, 0);
        x.block(0, 0, 1, 1, 0);
        x.fence(1, 1, 0, 5);
        x.cell(1, -1);
        x.cell(1, 0);
        x.cell(2, 0);
        net(x, 1, 0, 0, 1, 0);
        x.feed(1, 2, 3, 4, 5);
        x.end(7);
        x.cell(0, 0);
        x.cell(1, 9);
        x.drop(9);
        x.free(0);
        x.take(0);
        x.undo();
        x.fix(0, 0, 0);
        x.net(1);
        int[] dues = {5, 17, 2, 1, 3, 0, 9, 6, 0, 1, 2, 3, 0, 1, 16, 80, 4, 16, 4, 6};
        for (int what = 0; what < dues.length; what++) {
            due("count " + what, x.count(what), dues[what]);
        }
        for (int what : new int[] {-1, 20, LEAST, MOST}) {
            due("no such", x.count(what), -1);
        }
    }

    private static void statuses() {
        promise = 36;
        CellRows x = new CellRows(2, 8);
        x.terms(9, 9);
        due("terms", x.status(), -1);
        x.feed(0, 0, 0, 0, 0);
        x.end(99);
        x.cellOf(9, 9);
        due("what is no act leaves it", x.status(), -1);
        x.cell(1, 0);
        due("cell", x.status(), -2);
        x.cell(1, -1);
        due("cell", x.status(), 0);
        x.take(0);
        due("take", x.status(), -4);
        x.want(0, 0, 0);
        due("want", x.status(), 0);
        x.net(1);
        due("net", x.status(), -6);
        x.undo();
        due("undo", x.status(), 0);
        x.start(0);
        due("start", x.status(), -1);
        x.legal();
        due("legal", x.status(), 0);
        x.spread(0);
        due("spread", x.status(), -1);
        x.swaps();
        due("swaps", x.status(), 0);
        x.windows(0);
        due("windows", x.status(), -1);
        x.hops();
        due("hops", x.status(), 0);
        x.shake(-1, 1, 1);
        due("shake", x.status(), -1);
        x.sorts();
        due("sorts", x.status(), 0);
        x.drop(0);
        due("drop", x.status(), -2);
        x.put(0, 0, 0);
        due("put", x.status(), 0);
        x.free(0);
        due("free", x.status(), -4);
        x.fix(0, 0, 0);
        due("fix", x.status(), 0);
        x.block(0, 0, 0, 0, 0);
        due("block", x.status(), -4);
        x.fence(1, 1, 0, 0);
        due("fence", x.status(), 0);
    }
}
