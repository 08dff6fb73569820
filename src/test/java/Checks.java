import java.util.ArrayList;
import java.util.List;

/** What the tests of the promises share: answers that are due, small chips to ask, calls that are REFUSED. */
abstract class Checks {
    static final int LEAST = Integer.MIN_VALUE;
    static final int MOST = Integer.MAX_VALUE;
    static final int NONE = CellRows.NONE;
    private static final int[] KINDS = {-1, -2, -4, -5, -6};
    /** Each sentence that a test has quoted, with the number of its promise ahead of it. */
    static final List<String> QUOTED = new ArrayList<>();
    static int promise = 0;
    private static String sentence = "";
    private static int asked = 0;
    private static int wrong = 0;

    /** A chip as it is ahead of the call that is tested. */
    interface Scene {
        CellRows set();
    }

    /** One call. */
    interface Act {
        int on(CellRows x);
    }

    /** What is asked from here on tests this promise, and these words of the document. */
    static void says(int number, String words) {
        promise = number;
        sentence = words;
        QUOTED.add(number + " " + words);
    }

    static void close(String test) {
        System.out.println(test + ": " + asked + " answers, " + wrong + " wrong");
        if (wrong != 0) {
            System.exit(1);
        }
    }

    static void wrong(String what) {
        wrong++;
        System.out.println("promise " + promise + (sentence.isEmpty() ? "" : " \"" + sentence + "\"") + ", " + what);
    }

    static void due(String what, long got, long want) {
        asked++;
        if (got != want) {
            wrong(what + ": answered " + got + ", due is " + want);
        }
    }

    static void due(String what, boolean got, boolean want) {
        due(what, got ? 1 : 0, want ? 1 : 0);
    }

    static void spotDue(CellRows x, int cell, int row, int site) {
        due("row of cell " + cell, x.cellOf(cell, 5), row);
        due("site of cell " + cell, x.cellOf(cell, 6), site);
    }

    static void wantDue(CellRows x, int cell, int wantX, int wantY) {
        due("x of cell " + cell, x.cellOf(cell, 3), wantX);
        due("y of cell " + cell, x.cellOf(cell, 4), wantY);
    }

    /** Fills the TAPE with just these bytes, and makes a NET of it. */
    static int net(CellRows x, int weight, int... bytes) {
        tape(x, bytes);
        return x.net(weight);
    }

    static void tape(CellRows x, int... bytes) {
        x.end(0);
        for (int i = 0; i < bytes.length; i += 20) {
            int[] words = new int[5];
            for (int k = 0; k < 20 && i + k < bytes.length; k++) {
                words[k / 4] |= bytes[i + k] << (24 - 8 * (k % 4));
            }
            x.feed(words[0], words[1], words[2], words[3], words[4]);
        }
        x.end(bytes.length);
    }

    static CellRows withCells(int rows, int sites, int... widths) {
        CellRows x = new CellRows(rows, sites);
        for (int width : widths) {
            x.cell(width, NONE);
        }
        return x;
    }

    /**
     * A chip with something of everything: in row 1 the sites 0 and 1 are barred; the fence 0 has the sites 12 to 15 of
     * both rows; cell 0 (2 wide) lies at 0 of row 0, cell 1 (3 wide) is fixed at 4 of row 0, cell 2 (2 wide, of the
     * fence) lies at 12 of row 0, cell 3 (1 wide) has no spot; two nets; four bytes of a net on the tape.
     */
    static CellRows chip() {
        CellRows x = new CellRows(2, 16);
        x.block(1, 1, 0, 0, 1);
        x.fence(0, 1, 12, 15);
        x.cell(2, NONE);
        x.cell(3, NONE);
        x.cell(2, 0);
        x.cell(1, NONE);
        x.fix(1, 0, 4);
        x.put(0, 0, 0);
        x.put(2, 0, 12);
        net(x, 2, 0, 1, 2, 0);
        net(x, 1, 201, 8, 3, 0, 1, 2);
        tape(x, 0, 0, 3, 0);
        return x;
    }

    /** All that a chip tells, but for what was REFUSED; few enough calls to ask it twice of one object. */
    static String told(CellRows x) {
        StringBuilder all = new StringBuilder("counts");
        for (int what = 0; what <= 19; what++) {
            if (what < 9 || what > 13) {
                all.append(' ').append(x.count(what));
            }
        }
        all.append("; measures");
        for (int what = 0; what <= 8; what++) {
            all.append(' ').append(x.measure(what));
        }
        tellCells(x, all);
        tellNets(x, all);
        for (int bin = 0; bin < Math.min(4, x.count(6)); bin++) {
            all.append("; bin ").append(x.bin(bin, 0)).append(' ').append(x.bin(bin, 1)).append(' ').append(x.bin(bin, 3));
        }
        for (int row = 0; row < Math.min(2, x.count(0)); row++) {
            for (int fence = NONE; fence < x.count(3); fence++) {
                tellRuns(x, row, fence, all);
            }
        }
        return all.append("; fillers ").append(x.fillers(1)).append("; lawfully ").append(x.lawfully(0)).toString();
    }

    private static void tellCells(CellRows x, StringBuilder all) {
        int cells = x.count(4);
        for (int cell = 0; cell < cells; cell++) {
            all.append("; cell");
            for (int what = cells > 6 ? 3 : 0; what <= (cells > 6 ? 6 : 8); what++) {
                all.append(' ').append(x.cellOf(cell, what));
            }
        }
    }

    private static void tellNets(CellRows x, StringBuilder all) {
        int nets = x.count(5);
        for (int net = 0; net < nets; net++) {
            all.append("; net ").append(x.netOf(net, 0));
            int pins = nets > 4 ? 1 : x.netOf(net, 1);
            for (int what = 10; what < 10 + 2 * pins; what++) {
                all.append(' ').append(x.netOf(net, what));
            }
        }
    }

    private static void tellRuns(CellRows x, int row, int fence, StringBuilder all) {
        int runs = x.runs(row, fence);
        all.append("; runs ").append(runs);
        for (int i = 0; i < Math.min(4, runs); i++) {
            for (int what = 0; what <= 2; what++) {
                all.append(' ').append(x.run(row, fence, i, what));
            }
        }
    }

    static void alike(String what, CellRows x, CellRows twin) {
        asked++;
        String ofX = told(x);
        String ofTwin = told(twin);
        if (!ofX.equals(ofTwin)) {
            wrong(what + " should be as it was:\n  told " + ofX + "\n  due  " + ofTwin);
        }
    }

    /** The call is REFUSED by that; it is told; and all else is as if it had not been called. */
    static void refused(int by, String what, Scene scene, Act act) {
        refused(by, what, scene, act, twin -> 0);
    }

    /** The same, but for what the last act does to the TAPE. */
    static void refused(int by, String what, Scene scene, Act act, Act toTape) {
        CellRows x = scene.set();
        CellRows twin = scene.set();
        due(what, act.on(x), by);
        toTape.on(twin);
        due(what + ": status", x.status(), by);
        for (int i = 0; i < KINDS.length; i++) {
            due(what + ": how many by " + KINDS[i], x.count(9 + i), twin.count(9 + i) + (KINDS[i] == by ? 1 : 0));
        }
        alike(what + ": what stands", x, twin);
        due(what + ": the tape, read as a net", x.net(1), twin.net(1));
        for (int k = 0; k < 4; k++) {
            due(what + ": byte " + k + " of the tape", x.netOf(x.count(5) - 1, 10 + k), twin.netOf(twin.count(5) - 1, 10 + k));
        }
        due(what + ": what undo() takes back", x.undo(), twin.undo());
        due(what + ": what undo() takes back then", x.undo(), twin.undo());
        alike(what + ": what undo() brings back", x, twin);
    }
}
