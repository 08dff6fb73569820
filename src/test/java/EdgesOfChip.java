/** Promises 1 to 14: each sentence of the document that names an edge has a test of its own, which quotes it. */
final class EdgesOfChip extends Checks {
    static void all() {
        newObjects();
        terms();
        tape();
        blocks();
        fences();
        cells();
        nets();
        drops();
        wants();
        fixes();
        frees();
        puts();
        takes();
    }

    // ---- promise 1

    private static void newObjects() {
        promise1RowsOneToEight();
        promise1RowZeroIsTheLowest();
        promise1SitesEightToThirtyTwo();
        promise1NearestOfBoth();
        promise1NothingOnIt();
        promise1FiveHundredTwelveCalls();
        promise1Constant();
    }

    private static void promise1RowsOneToEight() {
        says(1, "THE CHIP has ROWS 1 .. 8");
        int[][] rows = {{LEAST, 1}, {-1, 1}, {0, 1}, {1, 1}, {2, 2}, {7, 7}, {8, 8}, {9, 8}, {MOST, 8}};
        for (int[] one : rows) {
            CellRows x = new CellRows(one[0], 16);
            due("rows of " + one[0], x.count(0), one[1]);
            due("the highest row", x.runs(one[1] - 1, NONE), 1);
            due("none above it", x.runs(one[1], NONE), NONE);
            due("its sites", x.count(1), 16);
        }
    }

    private static void promise1RowZeroIsTheLowest() {
        says(1, "(0 is the lowest)");
        CellRows x = new CellRows(8, 8);
        net(x, 1, 200, 0, 200, 1);
        net(x, 2, 207, 0, 207, 1);
        due("row 0 is in the lowest bin", x.bin(0, 3), 1);
        due("row 7 is in the highest bin", x.bin(3, 3), 2);
        due("no row below 0", x.runs(-1, NONE), NONE);
    }

    private static void promise1SitesEightToThirtyTwo() {
        says(1, "each of SITES 8 .. 32");
        int[][] sites = {{LEAST, 8}, {-1, 8}, {0, 8}, {7, 8}, {8, 8}, {9, 9}, {31, 31}, {32, 32}, {33, 32}, {MOST, 32}};
        for (int[] one : sites) {
            CellRows x = new CellRows(3, one[0]);
            due("sites of " + one[0], x.count(1), one[1]);
            due("all of them are a run", x.run(2, NONE, 0, 1), one[1]);
            x.cell(1, NONE);
            due("the last site", x.lawful(0, 0, one[1] - 1), true);
            due("none behind it", x.lawful(0, 0, one[1]), false);
            due("its rows", x.count(0), 3);
        }
    }

    private static void promise1NearestOfBoth() {
        says(1, "A chip of ROWS and SITES, the nearest that can be");
        CellRows least = new CellRows(LEAST, MOST);
        due("one row", least.count(0), 1);
        due("32 sites", least.count(1), 32);
        CellRows most = new CellRows(MOST, LEAST);
        due("eight rows", most.count(0), 8);
        due("8 sites", most.count(1), 8);
    }

    private static void promise1NothingOnIt() {
        says(1, "nothing on it.");
        CellRows x = new CellRows(3, 9);
        for (int what : new int[] {2, 3, 4, 5, 7, 8, 9, 10, 11, 12, 13}) {
            due("count " + what, x.count(what), 0);
        }
        for (int what = 0; what <= 8; what++) {
            due("measure " + what, x.measure(what), 0);
        }
        for (int row = 0; row < 3; row++) {
            due("one run from end to end", x.run(row, NONE, 0, 1), 9);
        }
        due("no cell", x.cellOf(0, 0), NONE);
        due("no net", x.netOf(0, 0), NONE);
        due("no fence", x.runs(0, 0), NONE);
        due("status", x.status(), 0);
        due("nothing to undo", x.undo(), -4);
    }

    private static void promise1FiveHundredTwelveCalls() {
        says(1, "An object is used for at most 512 calls after it has been made");
        CellRows x = new CellRows(8, 32);
        for (int call = 0; call < 20; call++) {
            due("its number", x.cell(1 + call % 6, NONE), call);
        }
        for (int call = 20; call < 511; call++) {
            due("a want", x.want(call % 20, call % 400, call % 100) >= 0, true);
        }
        due("the 512th", x.undo(), 5);
    }

    private static void promise1Constant() {
        says(1, "`NONE = -1`: There is none.");
        due("NONE", CellRows.NONE, -1);
    }

    // ---- promise 2

    private static void terms() {
        promise2Term(0, 1, 64, 16, "0 GAMMA 1 .. 64 (16 at first)");
        promise2Term(1, 10, 100, 80, "1 TARGET 10 .. 100 (80)");
        promise2Term(2, 0, 99, 4, "2 PRESSURE 0 .. 99 (4)");
        promise2Term(3, 1, 64, 16, "3 STEP 1 .. 64 (16)");
        promise2Term(4, 1, 8, 4, "4 TALL 1 .. 8 (4)");
        promise2Term(5, 1, 99, 6, "5 LOAD 1 .. 99 (6)");
        promise2NoSuchTerm();
    }

    private static void promise2Term(int what, int least, int most, int first, String words) {
        says(2, words);
        CellRows x = chip();
        int[] others = new int[6];
        for (int other = 0; other < 6; other++) {
            others[other] = x.count(14 + other);
        }
        due("at first", others[what], first);
        for (int value : new int[] {least - 1, most + 1, LEAST, MOST, -1, least - 7}) {
            refused(-1, "terms " + what + " of " + value, Checks::chip, one -> one.terms(what, value));
        }
        due("the least: what it was", x.terms(what, least), first);
        due("the least", x.count(14 + what), least);
        due("the greatest: what it was", x.terms(what, most), least);
        due("the greatest", x.count(14 + what), most);
        due("the greatest again: what it was", x.terms(what, most), most);
        due("status", x.status(), 0);
        for (int other = 0; other < 6; other++) {
            due("term " + other, x.count(14 + other), other == what ? most : others[other]);
        }
    }

    private static void promise2NoSuchTerm() {
        says(2, "A TERM: what it was. -1.");
        for (int what : new int[] {-1, 6, 7, LEAST, MOST}) {
            refused(-1, "terms " + what, Checks::chip, x -> x.terms(what, 10));
        }
    }

    // ---- promises 3 and 4

    private static void tape() {
        promise3TwentyBytesBehindTheTape();
        promise3HighestByteFirst();
        promise3NotAboveAHundred();
        promise4FirstBytesAlone();
        promise4NotSoMany();
        promise4BelowZero();
    }

    private static void promise3TwentyBytesBehindTheTape() {
        says(3, "Twenty bytes come behind the TAPE");
        CellRows x = withCells(2, 8, 1, 1);
        due("on the empty tape", x.feed(0x0000FFFF, -1, -1, -1, -1), 20);
        x.end(2);
        due("behind two bytes", x.feed(0x01000000, 0, 0, 0, 0), 22);
        x.end(4);
        due("the two and the next two are a net", x.net(1), 0);
        due("the first", x.netOf(0, 10), 0);
        due("the second", x.netOf(0, 12), 1);
        for (int fed = 1; fed <= 5; fed++) {
            due("how many it has", x.feed(0, 0, 0, 0, 0), 20 * fed);
        }
    }

    private static void promise3HighestByteFirst() {
        says(3, "four of each number, the highest first: how many it has.");
        CellRows x = withCells(8, 32, 1, 1, 1, 1, 6);
        due("twenty", x.feed(0x00000100, 0x02000300, 0x0405CF1F, 0, 0), 20);
        x.end(12);
        due("six pins", x.net(1), 0);
        int[] bytes = {0, 0, 1, 0, 2, 0, 3, 0, 4, 5, 207, 31};
        for (int k = 0; k < 12; k++) {
            due("byte " + k, x.netOf(0, 10 + k), bytes[k]);
        }
        due("a number below 0", x.feed(0xC800C71F, 0, 0, 0, 0), 20);
        x.end(4);
        due("its bytes are 200, 0 and 199, 31: no net", x.net(1), -6);
        x.feed(0xCF1FC81F, 0, 0, 0, 0);
        x.end(4);
        due("207, 31 and 200, 31", x.net(1), 1);
        x.feed(0, 0, 0, 0, 0x0000CF00);
        x.end(20);
        due("ten pins are too many", x.net(1), -6);
    }

    private static void promise3NotAboveAHundred() {
        says(3, "NONE, if there would be more than 100.");
        CellRows x = withCells(2, 8, 1);
        tape(x, new int[80]);
        due("80 and 20 are 100", x.feed(1, 1, 1, 1, 1), 100);
        due("100 and 20", x.feed(1, 1, 1, 1, 1), NONE);
        due("the tape stays", x.count(8), 100);
        x.end(81);
        due("81 and 20", x.feed(1, 1, 1, 1, 1), NONE);
        due("the tape stays", x.count(8), 81);
        tape(x, 0, 0, 200, 3);
        x.feed(0, 0, 0, 0, 0);
        x.feed(0, 0, 0, 0, 0);
        x.feed(0, 0, 0, 0, 0);
        x.feed(0, 0, 0, 0, 0);
        due("84 bytes", x.count(8), 84);
        due("84 and 20", x.feed(0xC9010000, 0, 0, 0, 0), NONE);
        x.end(4);
        due("the first bytes are as they were", x.net(1), 0);
        due("byte 2", x.netOf(0, 12), 200);
        due("byte 3", x.netOf(0, 13), 3);
        due("it is not REFUSED", x.status(), 0);
        due("it is not counted", x.count(9), 0);
    }

    private static void promise4FirstBytesAlone() {
        says(4, "The TAPE has its first n bytes alone: n.");
        CellRows x = withCells(2, 8, 1);
        due("none of none", x.end(0), 0);
        tape(x, new int[100]);
        for (int n : new int[] {100, 99, 98, 50, 1, 0, 0}) {
            due("the first " + n, x.end(n), n);
            due("bytes", x.count(8), n);
        }
    }

    private static void promise4NotSoMany() {
        says(4, "NONE, if it has not so many");
        CellRows x = withCells(2, 8, 1);
        due("one of none", x.end(1), NONE);
        tape(x, 0, 0, 200, 3);
        for (int n : new int[] {5, 20, 100, 101, MOST}) {
            due(n + " of four", x.end(n), NONE);
            due("bytes", x.count(8), 4);
        }
        due("it is not REFUSED", x.status(), 0);
        due("it is not counted", x.count(9), 0);
        due("the bytes are as they were", x.net(1), 0);
    }

    private static void promise4BelowZero() {
        says(4, "or n is below 0.");
        CellRows x = withCells(2, 8, 1);
        for (int n : new int[] {-1, -20, LEAST}) {
            due(n + " of none", x.end(n), NONE);
            tape(x, 0, 0, 200, 3);
            due(n + " of four", x.end(n), NONE);
            due("bytes", x.count(8), 4);
            x.end(0);
        }
        due("it is not REFUSED", x.status(), 0);
    }

    // ---- promise 5

    private static void blocks() {
        promise5FourAtMost();
        promise5RowsAndSitesOfTheChip();
        promise5Halo();
        promise5BarredFromHaloToHalo();
        promise5BarredThoseThatTheChipHas();
        promise5FixedWouldBeBarred();
        promise5LooseLoseTheirSpots();
        promise5OfTwentyCellsTheLast();
        promise5FirstReason();
    }

    private static CellRows fourBlocks() {
        CellRows x = chip();
        x.block(1, 1, 4, 4, 0);
        x.block(1, 1, 6, 6, 0);
        x.block(1, 1, 8, 8, 0);
        return x;
    }

    private static void promise5FourAtMost() {
        says(5, "BLOCKS, 4 at most");
        CellRows x = new CellRows(2, 8);
        for (int number = 0; number < 4; number++) {
            due("its number", x.block(0, 0, number, number, 0), number);
            due("how many", x.count(2), number + 1);
        }
        refused(-5, "the fifth", EdgesOfChip::fourBlocks, one -> one.block(1, 1, 10, 10, 0));
        refused(-5, "one that bars nothing new", EdgesOfChip::fourBlocks, one -> one.block(1, 1, 8, 8, 0));
        due("the last is undone", x.undo(), 0);
        due("then there is room for one", x.block(1, 1, 0, 0, 0), 3);
    }

    private static void promise5RowsAndSitesOfTheChip() {
        says(5, "-1 (not low, high ROW, first, last SITE of the chip; HALO)");
        int[][] wrongs = {{-1, 0, 8, 8, 0}, {0, 2, 8, 8, 0}, {2, 2, 8, 8, 0}, {1, 0, 8, 8, 0}, {0, 0, -1, 8, 0},
            {0, 0, 8, 16, 0}, {0, 0, 16, 16, 0}, {0, 0, 9, 8, 0}, {LEAST, 0, 8, 8, 0}, {0, MOST, 8, 8, 0},
            {0, 0, LEAST, 8, 0}, {0, 0, 8, MOST, 0}, {LEAST, MOST, LEAST, MOST, 0}};
        for (int[] w : wrongs) {
            refused(-1, "block of rows " + w[0] + " to " + w[1] + ", sites " + w[2] + " to " + w[3], Checks::chip,
                    x -> x.block(w[0], w[1], w[2], w[3], w[4]));
        }
        CellRows whole = new CellRows(8, 32);
        due("the whole chip", whole.block(0, 7, 0, 31, 0), 0);
        due("no run is left", whole.runs(0, NONE) + whole.runs(7, NONE), 0);
        CellRows one = new CellRows(1, 8);
        due("one site at the end", one.block(0, 0, 7, 7, 0), 0);
        due("the others are left", one.run(0, NONE, 0, 1), 7);
    }

    private static void promise5Halo() {
        says(5, "a HALO 0 .. 4");
        for (int halo : new int[] {-1, 5, LEAST, MOST}) {
            refused(-1, "a halo of " + halo, Checks::chip, x -> x.block(1, 1, 8, 8, halo));
        }
        for (int halo = 0; halo <= 4; halo++) {
            CellRows x = new CellRows(1, 16);
            due("a halo of " + halo, x.block(0, 0, 8, 8, halo), 0);
            due("ahead of it", x.run(0, NONE, 0, 1), 8 - halo);
            due("behind it", x.run(0, NONE, 1, 0), 9 + halo);
        }
    }

    private static void promise5BarredFromHaloToHalo() {
        says(5, "the SITES of these ROWS from HALO ahead of its first to HALO behind its last are BARRED");
        CellRows x = withCells(4, 16, 1);
        x.block(1, 2, 6, 8, 2);
        for (int row = 0; row < 4; row++) {
            for (int site = 0; site < 16; site++) {
                boolean barred = row >= 1 && row <= 2 && site >= 4 && site <= 10;
                due("site " + site + " of row " + row, x.lawful(0, row, site), !barred);
            }
        }
    }

    private static void promise5BarredThoseThatTheChipHas() {
        says(5, "(those that the chip has)");
        CellRows x = new CellRows(2, 8);
        due("at the left end", x.block(0, 0, 0, 0, 4), 0);
        due("from behind the halo on", x.run(0, NONE, 0, 0), 5);
        due("row 1 is whole", x.run(1, NONE, 0, 1), 8);
        due("at the right end", x.block(1, 1, 7, 7, 4), 1);
        due("up to the halo", x.run(1, NONE, 0, 1), 3);
        due("row 0 is as it was", x.run(0, NONE, 0, 1), 3);
        due("over both ends", x.block(0, 0, 3, 4, 4), 2);
        due("nothing is left", x.runs(0, NONE), 0);
        due("supply", x.bin(0, 0), 3 * 256);
    }

    private static void promise5FixedWouldBeBarred() {
        says(5, "-4 (a SITE of a FIXED CELL's SPOT would be BARRED)");
        refused(-4, "its first site", Checks::chip, x -> x.block(0, 0, 4, 4, 0));
        refused(-4, "its last site", Checks::chip, x -> x.block(0, 1, 6, 6, 0));
        refused(-4, "its first site by the halo", Checks::chip, x -> x.block(0, 0, 0, 0, 4));
        refused(-4, "its last site by the halo", Checks::chip, x -> x.block(0, 0, 10, 11, 4));
        refused(-4, "all of it", Checks::chip, x -> x.block(0, 1, 0, 15, 0));
        CellRows x = chip();
        due("up to it", x.block(0, 0, 1, 1, 2), 1);
        due("from behind it on", x.block(0, 0, 8, 8, 1), 2);
        due("above it", x.block(1, 1, 4, 6, 4), 3);
        spotDue(x, 1, 0, 4);
        for (int fixed : new int[] {0, 9, 19}) {
            refused(-4, "whichever it is: " + fixed, () -> {
                CellRows full = twentyCells();
                full.fix(fixed, 1, 9);
                return full;
            }, full -> full.block(0, 1, 9, 9, 0));
        }
    }

    private static void promise5LooseLoseTheirSpots() {
        says(5, "LOOSE CELLS whose SPOTS are not LAWFUL any more lose them.");
        CellRows x = withCells(2, 16, 2, 2, 2, 2, 2);
        x.put(0, 0, 2);
        x.put(1, 0, 4);
        x.put(2, 0, 7);
        x.put(3, 0, 9);
        x.put(4, 1, 5);
        due("over the last site of one and the first of another", x.block(0, 0, 5, 7, 0), 0);
        spotDue(x, 0, 0, 2);
        spotDue(x, 1, NONE, NONE);
        spotDue(x, 2, NONE, NONE);
        spotDue(x, 3, 0, 9);
        spotDue(x, 4, 1, 5);
        due("their wants stay", x.cellOf(1, 3), 112);
        due("by a halo alone", x.block(0, 0, 13, 13, 3), 1);
        spotDue(x, 3, NONE, NONE);
        due("three have none now", x.measure(5), 3);
        due("undone", x.undo(), 0);
        spotDue(x, 3, 0, 9);
        due("undone", x.undo(), 0);
        spotDue(x, 1, 0, 4);
        spotDue(x, 2, 0, 7);
    }

    private static void promise5OfTwentyCellsTheLast() {
        says(5, "LOOSE CELLS whose SPOTS are not LAWFUL any more");
        CellRows x = twentyCells();
        for (int cell = 0; cell < 20; cell++) {
            x.put(cell, cell / 16, cell % 16);
        }
        due("over the last of twenty", x.block(1, 1, 3, 3, 0), 0);
        spotDue(x, 19, NONE, NONE);
        spotDue(x, 18, 1, 2);
        due("a fence over the one ahead of it", x.fence(1, 1, 2, 2), 0);
        spotDue(x, 18, NONE, NONE);
        due("two have none", x.measure(5), 2);
    }

    private static void promise5FirstReason() {
        says(5, "The first of these in that order.");
        refused(-1, "a wrong halo, a fixed cell, no room", EdgesOfChip::fourBlocks, x -> x.block(0, 0, 4, 4, 5));
        refused(-1, "a wrong row, a fixed cell, no room", EdgesOfChip::fourBlocks, x -> x.block(0, 2, 4, 4, 0));
        refused(-4, "a fixed cell, no room", EdgesOfChip::fourBlocks, x -> x.block(0, 0, 4, 4, 0));
    }

    // ---- promise 6

    private static void fences() {
        promise6ThreeAtMost();
        promise6RowsAndSitesOfTheChip();
        promise6NoSiteInTwo();
        promise6FixedCellsSite();
        promise6LooseAsForBlock();
        promise6FirstReason();
    }

    private static CellRows threeFences() {
        CellRows x = chip();
        x.fence(1, 1, 6, 6);
        x.fence(1, 1, 8, 8);
        return x;
    }

    private static void promise6ThreeAtMost() {
        says(6, "FENCES, 3 at most");
        CellRows x = new CellRows(2, 8);
        for (int number = 0; number < 3; number++) {
            due("its number", x.fence(0, 0, number, number), number);
            due("how many", x.count(3), number + 1);
        }
        refused(-5, "the fourth", EdgesOfChip::threeFences, one -> one.fence(1, 1, 10, 10));
        due("the last is undone", x.undo(), 1);
        due("then there is room for one", x.fence(0, 1, 2, 7), 2);
    }

    private static void promise6RowsAndSitesOfTheChip() {
        says(6, "A FENCE: its number. -1;");
        int[][] wrongs = {{-1, 0, 8, 8}, {0, 2, 8, 8}, {2, 2, 8, 8}, {1, 0, 8, 8}, {0, 0, -1, 8}, {0, 0, 8, 16},
            {0, 0, 16, 16}, {0, 0, 9, 8}, {LEAST, 0, 8, 8}, {0, MOST, 8, 8}, {0, 0, LEAST, 8}, {0, 0, 8, MOST}};
        for (int[] w : wrongs) {
            refused(-1, "fence of rows " + w[0] + " to " + w[1] + ", sites " + w[2] + " to " + w[3], Checks::chip,
                    x -> x.fence(w[0], w[1], w[2], w[3]));
        }
        CellRows whole = new CellRows(8, 32);
        due("the whole chip", whole.fence(0, 7, 0, 31), 0);
        due("all is in it", whole.run(7, 0, 0, 1), 32);
        due("nothing is out of it", whole.runs(7, NONE), 0);
        CellRows one = new CellRows(1, 8);
        due("one site at the end", one.fence(0, 0, 7, 7), 0);
        due("it alone", one.run(0, 0, 0, 0), 7);
    }

    private static void promise6NoSiteInTwo() {
        says(6, "no SITE in two of them");
        refused(-4, "its first site", Checks::chip, x -> x.fence(0, 0, 11, 12));
        refused(-4, "its last site", Checks::chip, x -> x.fence(1, 1, 15, 15));
        refused(-4, "all of it", Checks::chip, x -> x.fence(1, 1, 0, 15));
        refused(-4, "the same once more", Checks::chip, x -> x.fence(0, 1, 12, 15));
        CellRows x = new CellRows(3, 16);
        due("in the middle", x.fence(1, 1, 4, 8), 0);
        due("one that meets its corner", x.fence(0, 1, 8, 9), -4);
        due("one that ends ahead of it", x.fence(0, 2, 0, 3), 1);
        due("one right below it", x.fence(0, 0, 4, 15), 2);
    }

    private static void promise6FixedCellsSite() {
        says(6, "-4 (it has a SITE of another FENCE, or of a FIXED CELL's SPOT)");
        refused(-4, "its first site", Checks::chip, x -> x.fence(0, 0, 2, 4));
        refused(-4, "its last site", Checks::chip, x -> x.fence(0, 1, 6, 9));
        CellRows x = chip();
        due("up to it", x.fence(0, 0, 2, 3), 1);
        due("from behind it on", x.fence(0, 1, 7, 9), 2);
        spotDue(x, 1, 0, 4);
    }

    private static void promise6LooseAsForBlock() {
        says(6, "LOOSE CELLS as for block().");
        CellRows x = withCells(2, 16, 2, 2, 2, 2);
        x.put(0, 0, 2);
        x.put(1, 0, 4);
        x.put(2, 0, 7);
        x.put(3, 1, 5);
        due("over the last site of one", x.fence(0, 0, 5, 6), 0);
        spotDue(x, 0, 0, 2);
        spotDue(x, 1, NONE, NONE);
        spotDue(x, 2, 0, 7);
        spotDue(x, 3, 1, 5);
        x.cell(2, 0);
        x.put(4, 0, 5);
        due("over all of another", x.fence(0, 0, 7, 8), 1);
        spotDue(x, 2, NONE, NONE);
        spotDue(x, 4, 0, 5);
        due("undone", x.undo(), 1);
        spotDue(x, 2, 0, 7);
    }

    private static void promise6FirstReason() {
        says(6, "The first of these in that order.");
        refused(-1, "a wrong site, another fence, no room", EdgesOfChip::threeFences, x -> x.fence(0, 0, 12, 16));
        refused(-4, "another fence, no room", EdgesOfChip::threeFences, x -> x.fence(0, 0, 12, 12));
        refused(-4, "a fixed cell, no room", EdgesOfChip::threeFences, x -> x.fence(0, 0, 4, 4));
    }

    // ---- promise 7

    private static void cells() {
        promise7TwentyAtMost();
        promise7WidthOneToSix();
        promise7FenceOrNone();
        promise7WantAtFirst();
        promise7LooseWithoutSpotAtFirst();
        promise7FirstReason();
    }

    private static CellRows twentyCells() {
        CellRows x = new CellRows(2, 16);
        for (int number = 0; number < 20; number++) {
            x.cell(1, NONE);
        }
        return x;
    }

    private static void promise7TwentyAtMost() {
        says(7, "CELLS, 20 at most");
        CellRows x = new CellRows(2, 16);
        for (int number = 0; number < 20; number++) {
            due("its number", x.cell(1, NONE), number);
            due("how many", x.count(4), number + 1);
        }
        due("the last one is there", x.cellOf(19, 0), 1);
        due("none behind it", x.cellOf(20, 0), NONE);
        refused(-5, "the 21st", EdgesOfChip::twentyCells, one -> one.cell(1, NONE));
        due("undone", x.undo(), 2);
        due("then there is room for one", x.cell(2, NONE), 19);
    }

    private static void promise7WidthOneToSix() {
        says(7, "a WIDTH 1 .. 6");
        for (int width : new int[] {0, 7, -1, LEAST, MOST}) {
            refused(-1, "a width of " + width, Checks::chip, x -> x.cell(width, NONE));
        }
        for (int width = 1; width <= 6; width++) {
            CellRows x = withCells(1, 8, width);
            due("width", x.cellOf(0, 0), width);
            due("the last spot", x.lawful(0, 0, 8 - width), true);
            due("beyond it", x.lawful(0, 0, 9 - width), false);
        }
    }

    private static void promise7FenceOrNone() {
        says(7, "-2 (FENCE; NONE is one)");
        for (int fence : new int[] {1, 2, 3, -2, LEAST, MOST}) {
            refused(-2, "fence " + fence, Checks::chip, x -> x.cell(1, fence));
        }
        CellRows x = new CellRows(2, 16);
        due("no fence yet", x.cell(1, 0), -2);
        due("none", x.cell(1, NONE), 0);
        due("its fence", x.cellOf(0, 1), NONE);
        for (int fence = 0; fence < 3; fence++) {
            x.fence(0, 0, fence, fence);
            due("the last fence", x.cell(6, fence), 1 + fence);
            due("its fence", x.cellOf(1 + fence, 1), fence);
            due("the next one is not there", x.cell(1, fence + 1), -2);
        }
    }

    private static void promise7WantAtFirst() {
        says(7, "at first half of these greatest ones");
        wantDue(withCells(1, 8, 6), 0, 16, 0);
        wantDue(withCells(1, 8, 1), 0, 56, 0);
        wantDue(withCells(2, 9, 2), 0, 56, 8);
        wantDue(withCells(8, 32, 1), 0, 248, 56);
        wantDue(withCells(8, 32, 6), 0, 208, 56);
        CellRows x = new CellRows(4, 16);
        x.fence(3, 3, 0, 1);
        x.cell(2, 0);
        wantDue(x, 0, 112, 24);
    }

    private static void promise7LooseWithoutSpotAtFirst() {
        says(7, "LOOSE (at first) or FIXED");
        CellRows x = withCells(2, 8, 2);
        due("loose", x.cellOf(0, 2), 0);
        says(7, "a SPOT (a ROW and the first of its SITES) or none (at first)");
        spotDue(x, 0, NONE, NONE);
        due("one has none", x.measure(5), 1);
        due("no move", x.cellOf(0, 8), NONE);
    }

    private static void promise7FirstReason() {
        says(7, "The first of these in that order.");
        refused(-1, "a wrong width, no such fence, no room", EdgesOfChip::twentyCells, x -> x.cell(7, 0));
        refused(-1, "a wrong width, no room", EdgesOfChip::twentyCells, x -> x.cell(0, NONE));
        refused(-2, "no such fence, no room", EdgesOfChip::twentyCells, x -> x.cell(1, 0));
    }

    // ---- promise 8

    private static void nets() {
        promise8SixteenAtMost();
        promise8WeightOneToNine();
        promise8TwoToSixPins();
        promise8Cells();
        promise8Offsets();
        promise8NoCellTwice();
        promise8PadRowsAndSites();
        promise8WherePinsAre();
        promise8TapeStaysOrIsEmpty();
        promise8FirstReason();
    }

    private static CellRows sixteenNets() {
        CellRows x = withCells(2, 8, 1, 1);
        for (int number = 0; number < 16; number++) {
            net(x, 1, number % 2, 0, 200 + number / 8, number % 8);
        }
        tape(x, 0, 0, 1, 0);
        return x;
    }

    private static void promise8SixteenAtMost() {
        says(8, "NETS, 16 at most");
        CellRows x = withCells(2, 8, 1, 1);
        for (int number = 0; number < 16; number++) {
            due("its number", net(x, 1, 0, 0, 1, 0), number);
            due("how many", x.count(5), number + 1);
        }
        due("in all of them", x.cellOf(1, 7), 16);
        refused(-5, "the 17th", EdgesOfChip::sixteenNets, one -> one.net(1));
        due("the first goes", x.drop(0), 2);
        due("then there is room for one", net(x, 1, 0, 0, 1, 0), 15);
        CellRows full = withCells(2, 8, 1, 1, 1, 1, 1, 1);
        for (int number = 0; number < 16; number++) {
            due("of six pins each", net(full, 9, 0, 0, 1, 0, 2, 0, 3, 0, 4, 0, 5, 0), number);
        }
        due("the last pin of the last", full.netOf(15, 20), 5);
        due("the first goes", full.drop(0), 6);
        due("the last pin of the last", full.netOf(14, 20), 5);
    }

    private static void promise8WeightOneToNine() {
        says(8, "a WEIGHT 1 .. 9");
        for (int weight : new int[] {0, 10, -1, LEAST, MOST}) {
            refused(-1, "a weight of " + weight, Checks::chip, x -> x.net(weight));
        }
        CellRows x = withCells(2, 8, 1, 1);
        due("the least", net(x, 1, 0, 0, 200, 0), 0);
        due("the greatest", net(x, 9, 0, 0, 200, 0), 1);
        due("weight", x.netOf(0, 0), 1);
        due("weight", x.netOf(1, 0), 9);
    }

    private static void unread(String what, int... bytes) {
        refused(-6, what, () -> {
            CellRows x = chip();
            tape(x, bytes);
            return x;
        }, x -> x.net(1), twin -> twin.end(0));
    }

    private static void promise8TwoToSixPins() {
        says(8, "2 to 6 PINS");
        unread("no byte");
        unread("one byte", 0);
        unread("one pin", 0, 0);
        unread("three bytes", 0, 0, 1);
        unread("five bytes", 0, 0, 1, 0, 2);
        unread("thirteen bytes", 0, 0, 1, 0, 2, 0, 3, 0, 200, 0, 200, 1, 200);
        unread("seven pins", 0, 0, 1, 0, 2, 0, 3, 0, 200, 0, 200, 1, 200, 2);
        unread("fifty pins", new int[100]);
        CellRows x = chip();
        due("two", net(x, 1, 0, 0, 1, 0), 2);
        due("pins", x.netOf(2, 1), 2);
        due("six", net(x, 1, 0, 0, 1, 0, 2, 0, 3, 0, 200, 0, 200, 1), 3);
        due("pins", x.netOf(3, 1), 6);
        due("two pads alone", net(x, 1, 200, 0, 201, 15), 4);
    }

    private static void promise8Cells() {
        says(8, "two bytes for each PIN, a CELL and an OFFSET, or 200 and a ROW, and a SITE");
        unread("the cell behind the last", 0, 0, 4, 0);
        unread("cell 20", 0, 0, 20, 0);
        unread("199", 0, 0, 199, 0);
        CellRows x = chip();
        due("the last cell", net(x, 1, 3, 0, 0, 0), 2);
        due("its cell", x.netOf(2, 10), 3);
        CellRows full = twentyCells();
        due("cell 19", net(full, 1, 19, 0, 200, 0), 0);
        CellRows empty = new CellRows(1, 8);
        due("without cells pads alone", net(empty, 1, 200, 0, 200, 0), 0);
        due("no cell 0", net(empty, 1, 0, 0, 200, 0), -6);
    }

    private static void promise8Offsets() {
        says(8, "each of a CELL with an OFFSET 0 .. WIDTH less 1");
        unread("the offset is the width", 0, 2, 1, 0);
        unread("the offset is the width of the last", 1, 0, 3, 1);
        unread("255", 0, 255, 1, 0);
        CellRows x = chip();
        due("the least", net(x, 1, 0, 0, 1, 0), 2);
        due("the greatest", net(x, 1, 0, 1, 1, 2), 3);
        due("offset", x.netOf(3, 11), 1);
        due("offset", x.netOf(3, 13), 2);
    }

    private static void promise8NoCellTwice() {
        says(8, "(no CELL twice in one NET)");
        unread("the same pin twice", 0, 0, 0, 0);
        unread("two pins of one cell", 0, 0, 0, 1);
        unread("the first and the last", 1, 0, 0, 0, 2, 0, 3, 0, 200, 0, 1, 1);
        unread("the last two", 200, 0, 1, 0, 1, 1);
        CellRows x = chip();
        due("a pad twice can be", net(x, 1, 200, 0, 0, 0, 200, 0), 2);
        due("a cell in two nets can be", net(x, 1, 0, 0, 200, 0), 3);
    }

    private static void promise8PadRowsAndSites() {
        says(8, "or a PAD (a ROW and a SITE)");
        unread("the row above the chip", 0, 0, 202, 0);
        unread("row 55", 0, 0, 255, 0);
        unread("the site behind the chip", 0, 0, 200, 16);
        unread("site 255", 0, 0, 201, 255);
        CellRows x = chip();
        due("the corners", net(x, 1, 200, 0, 200, 15, 201, 0, 201, 15), 2);
        due("where there is a block, too", net(x, 1, 201, 0, 0, 0), 3);
        CellRows most = new CellRows(8, 32);
        due("207, 31", net(most, 1, 207, 31, 200, 0), 0);
        due("208", net(most, 1, 208, 0, 200, 0), -6);
        due("32", net(most, 1, 207, 32, 200, 0), -6);
        due("one row alone", net(new CellRows(1, 8), 1, 201, 0, 200, 0), -6);
    }

    private static void promise8WherePinsAre() {
        says(8, "Where a PIN of a CELL is: 16 times OFFSET and 8 to the right of, 8 above the CELL's corner; "
                + "a PAD: 16 times its SITE, ROW, and 8 each.");
        CellRows x = withCells(8, 32, 6);
        x.put(0, 7, 26);
        due("the last offset at the last spot", net(x, 1, 0, 5, 207, 31), 0);
        due("is where the last pad is", x.netOf(0, 2), 0);
        x.put(0, 0, 0);
        due("the first offset at the first spot", net(x, 1, 0, 0, 200, 0), 1);
        due("is where the first pad is", x.netOf(1, 2), 0);
        due("from end to end", x.netOf(0, 2), 26 * 16 + 4 * 112);
        x.take(0);
        x.want(0, 1, 2);
        due("by a want, one and two beside the pad", x.netOf(1, 2), 1 + 4 * 2);
    }

    private static void promise8TapeStaysOrIsEmpty() {
        says(8, "-1, -5 (the TAPE stays); -6. The TAPE is empty then (by -6, too).");
        CellRows x = chip();
        due("a wrong weight", x.net(10), -1);
        due("the tape stays", x.count(8), 4);
        due("a net", x.net(9), 2);
        due("the tape is empty", x.count(8), 0);
        due("an empty tape is none", x.net(9), -6);
        tape(x, 9, 9, 9);
        due("can't be read", x.net(9), -6);
        due("the tape is empty", x.count(8), 0);
        CellRows full = sixteenNets();
        due("no room", full.net(1), -5);
        due("the tape stays", full.count(8), 4);
    }

    private static void promise8FirstReason() {
        says(8, "The first of these in that order.");
        refused(-1, "a wrong weight, no room", EdgesOfChip::sixteenNets, x -> x.net(0));
        Scene unreadable = () -> {
            CellRows x = sixteenNets();
            tape(x, 0, 0, 9);
            return x;
        };
        refused(-1, "a wrong weight, no room, a wrong tape", unreadable, x -> x.net(10));
        refused(-5, "no room, a wrong tape", unreadable, x -> x.net(1));
        refused(-1, "a wrong weight, a wrong tape", () -> {
            CellRows x = chip();
            tape(x, 0, 0, 0, 0);
            return x;
        }, x -> x.net(10));
    }

    // ---- promise 9

    private static void drops() {
        promise9NoSuchNet();
        promise9NumbersOneLess();
        promise9HowManyPins();
    }

    private static void promise9NoSuchNet() {
        says(9, "how many PINS it had. -2.");
        for (int number : new int[] {-1, 2, 16, LEAST, MOST}) {
            refused(-2, "drop " + number, Checks::chip, x -> x.drop(number));
        }
        refused(-2, "of none", () -> withCells(2, 8, 1), x -> x.drop(0));
        refused(-2, "of sixteen", EdgesOfChip::sixteenNets, x -> x.drop(16));
    }

    private static void promise9NumbersOneLess() {
        says(9, "A NET is no more; those above it have a number 1 less");
        for (int gone : new int[] {0, 1, 7, 14, 15}) {
            CellRows x = sixteenNets();
            due("pins", x.drop(gone), 2);
            due("how many", x.count(5), 15);
            for (int net = 0; net < 15; net++) {
                bytesDue(x, net, net < gone ? net : net + 1);
            }
            due("no more", x.netOf(15, 0), NONE);
            due("in one less", x.cellOf(gone % 2, 7), 7);
            due("the other one is not", x.cellOf(1 - gone % 2, 7), 8);
            due("undone", x.undo(), 4);
            for (int net = 0; net < 16; net++) {
                bytesDue(x, net, net);
            }
        }
    }

    private static void bytesDue(CellRows x, int net, int number) {
        due("cell of net " + net, x.netOf(net, 10), number % 2);
        due("row of net " + net, x.netOf(net, 12), 200 + number / 8);
        due("site of net " + net, x.netOf(net, 13), number % 8);
    }

    private static void promise9HowManyPins() {
        says(9, "how many PINS it had.");
        CellRows x = chip();
        net(x, 1, 0, 0, 1, 0, 2, 0, 3, 0, 200, 0, 200, 1);
        due("six", x.drop(2), 6);
        due("two", x.drop(0), 2);
        due("three", x.drop(0), 3);
        due("none is left", x.drop(0), -2);
        due("no wire", x.measure(0), 0);
    }

    // ---- promise 10

    private static void wants() {
        promise10XAndY();
        promise10FromZeroToTheGreatest();
        promise10NoSuchCell();
        promise10Fixed();
        promise10BeyondItsWidth();
        promise10HowFar();
        promise10FirstReason();
    }

    private static void promise10XAndY() {
        says(10, "-1 (x 0 .. 16 times (SITES less 1), y 0 .. 16 times (ROWS less 1))");
        for (int wrong : new int[] {-1, 241, LEAST, MOST}) {
            refused(-1, "x " + wrong, Checks::chip, x -> x.want(3, wrong, 0));
        }
        for (int wrong : new int[] {-1, 17, LEAST, MOST}) {
            refused(-1, "y " + wrong, Checks::chip, x -> x.want(3, 0, wrong));
        }
        CellRows x = chip();
        due("the least", x.want(3, 0, 0), 120 + 8);
        wantDue(x, 3, 0, 0);
        due("the greatest", x.want(3, 240, 16), 256);
        wantDue(x, 3, 240, 16);
        CellRows one = withCells(1, 8, 1);
        due("one row: y 0", one.want(0, 112, 0), 56);
        due("one row: y 1", one.want(0, 112, 1), -1);
        due("x 113", one.want(0, 113, 0), -1);
    }

    private static void promise10FromZeroToTheGreatest() {
        says(10, "a WANT (FINE x 0 .. 16 times (SITES less WIDTH), FINE y 0 .. 16 times (ROWS less 1): where its lower left "
                + "corner should be;");
        for (int width = 1; width <= 6; width++) {
            CellRows x = withCells(8, 32, width);
            int most = 16 * (32 - width);
            due("the least", x.want(0, 0, 0), most / 2 + 56);
            wantDue(x, 0, 0, 0);
            due("the greatest", x.want(0, most, 112), most + 112);
            wantDue(x, 0, most, 112);
            due("one more", x.want(0, most + 1, 112) < 0, true);
            wantDue(x, 0, most, 112);
        }
    }

    private static void promise10NoSuchCell() {
        says(10, "The WANT of a CELL: by how much x and y are others, together.");
        for (int cell : new int[] {-1, 4, 20, LEAST, MOST}) {
            refused(-2, "cell " + cell, Checks::chip, x -> x.want(cell, 0, 0));
        }
        refused(-2, "of none", () -> new CellRows(2, 8), x -> x.want(0, 0, 0));
    }

    private static void promise10Fixed() {
        says(10, "-4 (it is FIXED; x is beyond what its WIDTH lets it want)");
        refused(-4, "another want", Checks::chip, x -> x.want(1, 0, 0));
        refused(-4, "the want that it has", Checks::chip, x -> x.want(1, 64, 0));
        CellRows x = chip();
        x.free(1);
        due("once it is loose", x.want(1, 0, 0), 64);
    }

    private static void promise10BeyondItsWidth() {
        says(10, "x is beyond what its WIDTH lets it want");
        refused(-4, "one beyond", Checks::chip, x -> x.want(0, 225, 0));
        refused(-4, "as far as the narrowest", Checks::chip, x -> x.want(0, 240, 16));
        for (int width = 1; width <= 6; width++) {
            CellRows x = withCells(2, 16, width);
            due("just so far", x.want(0, 16 * (16 - width), 8), 8 * (16 - width));
            due("one more", x.want(0, 16 * (16 - width) + 1, 8), width == 1 ? -1 : -4);
        }
    }

    private static void promise10HowFar() {
        says(10, "by how much x and y are others, together.");
        CellRows x = withCells(2, 16, 2);
        due("as it is: nothing", x.want(0, 112, 8), 0);
        due("that can be undone, too", x.undo(), 5);
        due("one to the right", x.want(0, 113, 8), 1);
        due("one up", x.want(0, 113, 9), 1);
        due("left and down", x.want(0, 100, 0), 13 + 9);
        due("right and down do not make up", x.want(0, 109, 9), 9 + 9);
    }

    private static void promise10FirstReason() {
        says(10, "The first of these in that order.");
        refused(-1, "a wrong x, no such cell", Checks::chip, x -> x.want(4, 241, 0));
        refused(-1, "a wrong y of a fixed one", Checks::chip, x -> x.want(1, 0, 17));
        refused(-1, "a wrong y, beyond its width", Checks::chip, x -> x.want(0, 225, -1));
        refused(-2, "no such cell, far to the right", Checks::chip, x -> x.want(4, 240, 0));
    }

    // ---- promise 11

    private static void fixes() {
        promise11NoSuchRowSite();
        promise11NoSuchCell();
        promise11FixedAlready();
        promise11NotLawful();
        promise11HowManyLose();
        promise11WantIsItsSpot();
        promise11FirstReason();
    }

    private static void promise11NoSuchRowSite() {
        says(11, "-1 (no such ROW, SITE)");
        for (int row : new int[] {-1, 2, LEAST, MOST}) {
            refused(-1, "row " + row, Checks::chip, x -> x.fix(3, row, 8));
        }
        for (int site : new int[] {-1, 16, LEAST, MOST}) {
            refused(-1, "site " + site, Checks::chip, x -> x.fix(3, 0, site));
        }
        CellRows x = withCells(2, 16, 1, 1);
        due("the lowest, the first", x.fix(0, 0, 0), 0);
        due("the highest, the last", x.fix(1, 1, 15), 0);
        spotDue(x, 1, 1, 15);
    }

    private static void promise11NoSuchCell() {
        says(11, "A CELL is FIXED at a SPOT");
        for (int cell : new int[] {-1, 4, 20, LEAST, MOST}) {
            refused(-2, "cell " + cell, Checks::chip, x -> x.fix(cell, 0, 8));
        }
    }

    private static void promise11FixedAlready() {
        says(11, "-4 (it is FIXED; the SPOT would not be LAWFUL, LOOSE CELLS aside)");
        refused(-4, "elsewhere", Checks::chip, x -> x.fix(1, 0, 8));
        refused(-4, "where it is", Checks::chip, x -> x.fix(1, 0, 4));
    }

    private static void promise11NotLawful() {
        says(11, "the SPOT would not be LAWFUL, LOOSE CELLS aside");
        refused(-4, "it ends behind the chip", Checks::chip, x -> x.fix(2, 0, 15));
        refused(-4, "its first site is barred", Checks::chip, x -> x.fix(0, 1, 1));
        refused(-4, "all is barred", Checks::chip, x -> x.fix(0, 1, 0));
        refused(-4, "its last site is in a fence", Checks::chip, x -> x.fix(0, 0, 11));
        refused(-4, "its first site is out of its fence", Checks::chip, x -> x.fix(2, 0, 11));
        refused(-4, "out of its fence", Checks::chip, x -> x.fix(2, 1, 4));
        refused(-4, "its last site is a fixed one's first", Checks::chip, x -> x.fix(0, 0, 3));
        refused(-4, "its site is a fixed one's last", Checks::chip, x -> x.fix(3, 0, 6));
        CellRows x = chip();
        due("right behind the barred ones", x.fix(0, 1, 2), 0);
        due("right ahead of the fixed one", x.fix(3, 0, 3), 0);
        due("at the end of its fence", x.fix(2, 1, 14), 0);
        CellRows y = chip();
        due("right ahead of the fence", y.fix(0, 0, 10), 0);
        due("right behind the fixed one", y.fix(3, 0, 7), 0);
    }

    private static void promise11HowManyLose() {
        says(11, "how many LOOSE ones lose theirs by it (those that lie there)");
        CellRows x = withCells(1, 16, 6, 1, 1, 1, 1, 1, 1, 1, 1);
        for (int cell = 1; cell <= 8; cell++) {
            x.put(cell, 0, cell);
        }
        due("six", x.fix(0, 0, 2), 6);
        spotDue(x, 1, 0, 1);
        spotDue(x, 2, NONE, NONE);
        spotDue(x, 7, NONE, NONE);
        spotDue(x, 8, 0, 8);
        due("undone", x.undo(), 6);
        spotDue(x, 2, 0, 2);
        spotDue(x, 0, NONE, NONE);
        due("loose again", x.cellOf(0, 2), 0);
        CellRows y = withCells(2, 16, 3, 3);
        y.put(0, 0, 4);
        y.put(1, 1, 4);
        due("itself does not lose it", y.fix(0, 0, 5), 0);
        spotDue(y, 0, 0, 5);
        spotDue(y, 1, 1, 4);
        due("where it lies itself", y.fix(1, 1, 4), 0);
    }

    private static void promise11WantIsItsSpot() {
        says(11, "The WANT of a FIXED one is where its SPOT is (16 times SITE, ROW).");
        CellRows x = withCells(8, 32, 1, 6);
        x.fix(0, 7, 31);
        wantDue(x, 0, 496, 112);
        x.fix(1, 0, 0);
        wantDue(x, 1, 0, 0);
        due("no moves", x.measure(4), 0);
        x.undo();
        wantDue(x, 1, 208, 56);
    }

    private static void promise11FirstReason() {
        says(11, "The first of these in that order.");
        refused(-1, "a wrong row, no such cell", Checks::chip, x -> x.fix(4, 2, 0));
        refused(-1, "a wrong site of a fixed one", Checks::chip, x -> x.fix(1, 0, 16));
        refused(-2, "no such cell where one is fixed", Checks::chip, x -> x.fix(4, 0, 4));
    }

    // ---- promise 12

    private static void frees() {
        promise12NoSuchCell();
        promise12Loose();
        promise12SpotAndWantStay();
    }

    private static void promise12NoSuchCell() {
        says(12, "its ROW. -2; -4 (it is LOOSE).");
        for (int cell : new int[] {-1, 4, 20, LEAST, MOST}) {
            refused(-2, "cell " + cell, Checks::chip, x -> x.free(cell));
        }
    }

    private static void promise12Loose() {
        says(12, "-4 (it is LOOSE)");
        refused(-4, "with a spot", Checks::chip, x -> x.free(0));
        refused(-4, "without one", Checks::chip, x -> x.free(3));
        CellRows x = chip();
        due("the fixed one", x.free(1), 0);
        due("once more", x.free(1), -4);
    }

    private static void promise12SpotAndWantStay() {
        says(12, "A FIXED CELL is LOOSE, its SPOT, its WANT stay: its ROW.");
        CellRows x = withCells(8, 32, 2);
        x.fix(0, 7, 30);
        due("its row", x.free(0), 7);
        due("loose", x.cellOf(0, 2), 0);
        spotDue(x, 0, 7, 30);
        wantDue(x, 0, 480, 112);
        due("undone", x.undo(), 7);
        due("fixed", x.cellOf(0, 2), 1);
        spotDue(x, 0, 7, 30);
    }

    // ---- promise 13

    private static void puts() {
        promise13NoSuchRowSite();
        promise13NoSuchCell();
        promise13Fixed();
        promise13InTheChip();
        promise13NoneBarred();
        promise13AllInItsFence();
        promise13NoneAnotherCells();
        promise13WhatWireIs();
        promise13FirstReason();
    }

    private static void promise13NoSuchRowSite() {
        says(13, "-1 (no such ROW, SITE)");
        for (int row : new int[] {-1, 2, LEAST, MOST}) {
            refused(-1, "row " + row, Checks::chip, x -> x.put(3, row, 8));
        }
        for (int site : new int[] {-1, 16, LEAST, MOST}) {
            refused(-1, "site " + site, Checks::chip, x -> x.put(3, 0, site));
        }
    }

    private static void promise13NoSuchCell() {
        says(13, "A LOOSE CELL comes to a SPOT");
        for (int cell : new int[] {-1, 4, 20, LEAST, MOST}) {
            refused(-2, "cell " + cell, Checks::chip, x -> x.put(cell, 0, 8));
        }
    }

    private static void promise13Fixed() {
        says(13, "-4 (it is FIXED; not LAWFUL)");
        refused(-4, "elsewhere", Checks::chip, x -> x.put(1, 0, 8));
        refused(-4, "where it is", Checks::chip, x -> x.put(1, 0, 4));
    }

    private static void promise13InTheChip() {
        says(13, "if all its SITES are in the chip");
        for (int width = 2; width <= 6; width++) {
            int wide = width;
            Scene one = () -> withCells(2, 8, wide);
            refused(-4, "one too far", one, x -> x.put(0, 1, 9 - wide));
            refused(-4, "at the last site", one, x -> x.put(0, 0, 7));
            CellRows x = one.set();
            due("just so far", x.put(0, 1, 8 - wide), 0);
            spotDue(x, 0, 1, 8 - wide);
        }
    }

    private static void promise13NoneBarred() {
        says(13, "none BARRED");
        refused(-4, "its first site", Checks::chip, x -> x.put(0, 1, 1));
        refused(-4, "all", Checks::chip, x -> x.put(0, 1, 0));
        CellRows x = chip();
        due("right behind them", x.put(0, 1, 2) >= 0, true);
        x.block(1, 1, 6, 6, 0);
        due("its last site", x.put(0, 1, 5), -4);
        due("right ahead", x.put(0, 1, 4) >= 0, true);
    }

    private static void promise13AllInItsFence() {
        says(13, "all in its FENCE (of NONE: none in any FENCE)");
        refused(-4, "of the fence, its first site out of it", Checks::chip, x -> x.put(2, 1, 11));
        refused(-4, "of the fence, all out of it", Checks::chip, x -> x.put(2, 1, 8));
        refused(-4, "of none, its last site in a fence", Checks::chip, x -> x.put(0, 1, 11));
        refused(-4, "of none, all in a fence", Checks::chip, x -> x.put(0, 1, 13));
        CellRows x = new CellRows(3, 16);
        x.fence(1, 1, 4, 7);
        x.fence(1, 1, 8, 11);
        x.cell(2, 0);
        x.cell(4, 1);
        due("its last site out of it, in another", x.put(0, 1, 7), -4);
        due("below it", x.put(0, 0, 5), -4);
        due("above it", x.put(0, 2, 5), -4);
        due("at its first", x.put(0, 1, 4), 0);
        due("at its last", x.put(0, 1, 6), 0);
        due("just as wide as it", x.put(1, 1, 8), 0);
        due("in another alone", x.put(1, 1, 4), -4);
    }

    private static void promise13NoneAnotherCells() {
        says(13, "none is another CELL's");
        refused(-4, "its site is a loose one's last", Checks::chip, x -> x.put(3, 0, 1));
        refused(-4, "its site is a fixed one's first", Checks::chip, x -> x.put(3, 0, 4));
        refused(-4, "its last site is a fixed one's first", Checks::chip, x -> x.put(0, 0, 3));
        CellRows x = chip();
        due("beside a loose one", x.put(3, 0, 2) >= 0, true);
        due("beside a fixed one", x.put(3, 0, 7) >= 0, true);
        due("itself aside", x.put(0, 0, 1) >= 0, true);
        due("where it is", x.put(0, 0, 1) >= 0, true);
        spotDue(x, 0, 0, 1);
    }

    private static void promise13WhatWireIs() {
        says(13, "what WIRE is then");
        CellRows x = withCells(8, 32, 1);
        due("without nets", x.put(0, 0, 0), 0);
        net(x, 9, 0, 0, 207, 31);
        due("as far as can be", x.put(0, 0, 0), 9 * (496 + 4 * 112));
        due("right there", x.put(0, 7, 31), 0);
        due("told by undo", x.undo(), 8);
        spotDue(x, 0, 0, 0);
    }

    private static void promise13FirstReason() {
        says(13, "The first of these in that order.");
        refused(-1, "a wrong site, no such cell", Checks::chip, x -> x.put(4, 0, 16));
        refused(-1, "a wrong row of a fixed one", Checks::chip, x -> x.put(1, -1, 0));
        refused(-2, "no such cell where one lies", Checks::chip, x -> x.put(4, 0, 0));
    }

    // ---- promise 14

    private static void takes() {
        promise14NoSuchCell();
        promise14NoneOrFixed();
        promise14ItsRow();
    }

    private static void promise14NoSuchCell() {
        says(14, "its ROW. -2;");
        for (int cell : new int[] {-1, 4, 20, LEAST, MOST}) {
            refused(-2, "cell " + cell, Checks::chip, x -> x.take(cell));
        }
    }

    private static void promise14NoneOrFixed() {
        says(14, "-4 (it has none, or is FIXED)");
        refused(-4, "it has none", Checks::chip, x -> x.take(3));
        refused(-4, "it is fixed", Checks::chip, x -> x.take(1));
        CellRows x = chip();
        due("it has one", x.take(0), 0);
        due("it has none then", x.take(0), -4);
        x.free(1);
        due("a loose one that was fixed", x.take(1), 0);
    }

    private static void promise14ItsRow() {
        says(14, "A LOOSE CELL loses its SPOT: its ROW.");
        CellRows x = withCells(8, 32, 2);
        x.want(0, 3, 4);
        x.put(0, 7, 30);
        due("its row", x.take(0), 7);
        spotDue(x, 0, NONE, NONE);
        wantDue(x, 0, 3, 4);
        due("undone", x.undo(), 9);
        spotDue(x, 0, 7, 30);
        x.put(0, 0, 0);
        due("row 0", x.take(0), 0);
    }
}
