import java.util.ArrayDeque;
import java.util.ArrayList;
import java.util.Arrays;
import java.util.Collections;
import java.util.Deque;
import java.util.List;

/**
 * The document once more, written as plainly as it can be and without a thought for speed or room: every measure is
 * taken anew, every SITE is looked at by itself, every order is tried. It is what CellRows is compared with.
 */
final class PlainRows {
    static final class Refused extends RuntimeException {
        private static final long serialVersionUID = 1L;
        final int by;

        Refused(int by) {
            this.by = by;
        }
    }

    record Box(int low, int high, int first, int last, int halo) {
        boolean has(int row, int site) {
            return row >= low && row <= high && site >= first - halo && site <= last + halo;
        }
    }

    record Spot(int row, int site) { }

    record Run(int row, int fence, int first, int length) {
        boolean has(Spot spot) {
            return spot.row == row && spot.site >= first && spot.site < first + length;
        }
    }

    record Pin(int head, int tail) { }

    record Net(int weight, List<Pin> pins) {
        boolean has(int cell) {
            return pins.stream().anyMatch(pin -> pin.head == cell);
        }
    }

    record Cell(int width, int fence, boolean fixed, int x, int y, Spot spot) {
        Cell at(Spot where) {
            return new Cell(width, fence, fixed, x, y, where);
        }

        Cell wanting(int newX, int newY) {
            return new Cell(width, fence, fixed, newX, newY, spot);
        }

        Cell fixed(boolean now) {
            return new Cell(width, fence, now, x, y, spot);
        }
    }

    record Kept(int act, List<Box> blocks, List<Box> fences, List<Cell> cells, List<Net> nets) { }

    private final int rows;
    private final int sites;
    private final int[] terms = {16, 80, 4, 16, 4, 6};
    private List<Box> blocks = new ArrayList<>();
    private List<Box> fences = new ArrayList<>();
    private List<Cell> cells = new ArrayList<>();
    private List<Net> nets = new ArrayList<>();
    private final Deque<Kept> kept = new ArrayDeque<>();
    private final List<Integer> tape = new ArrayList<>();
    private final int[] refused = new int[7];
    private int status;

    PlainRows(int rows, int sites) {
        this.rows = rows < 1 ? 1 : rows > 8 ? 8 : rows;
        this.sites = sites < 8 ? 8 : sites > 32 ? 32 : sites;
    }

    // ---- every act goes through here

    private interface Act {
        int go();
    }

    /** An act numbered below 0 can't be undone. */
    private int act(int number, Act what) {
        Kept before = new Kept(number, new ArrayList<>(blocks), new ArrayList<>(fences), new ArrayList<>(cells),
                new ArrayList<>(nets));
        try {
            int told = what.go();
            status = 0;
            if (number >= 0) {
                kept.addLast(before);
                if (kept.size() > 12) {
                    kept.removeFirst();
                }
            }
            return told;
        } catch (Refused by) {
            blocks = before.blocks;
            fences = before.fences;
            cells = before.cells;
            nets = before.nets;
            refused[-by.by]++;
            status = by.by;
            return by.by;
        }
    }

    private static void need(boolean holds, int by) {
        if (!holds) {
            throw new Refused(by);
        }
    }

    private static boolean in(int value, int least, int most) {
        return value >= least && value <= most;
    }

    private boolean isCell(int cell) {
        return in(cell, 0, cells.size() - 1);
    }

    private boolean isFence(int fence) {
        return in(fence, -1, fences.size() - 1);
    }

    // ---- the ground

    private boolean barred(int row, int site) {
        return blocks.stream().anyMatch(block -> block.has(row, site));
    }

    private int fenceAt(int row, int site) {
        for (int i = 0; i < fences.size(); i++) {
            if (fences.get(i).has(row, site)) {
                return i;
            }
        }
        return -1;
    }

    /** The CELL at a SITE, or -1. */
    private int cellAt(int row, int site) {
        for (int i = 0; i < cells.size(); i++) {
            Cell cell = cells.get(i);
            if (cell.spot != null && cell.spot.row == row && in(site, cell.spot.site, cell.spot.site + cell.width - 1)) {
                return i;
            }
        }
        return -1;
    }

    private boolean fixedAt(int row, int site) {
        int cell = cellAt(row, site);
        return cell >= 0 && cells.get(cell).fixed;
    }

    private boolean inChip(int width, int row, int site) {
        return in(row, 0, rows - 1) && site >= 0 && (long) site + width <= sites;
    }

    private boolean groundFor(Cell cell, int row, int site) {
        if (!inChip(cell.width, row, site)) {
            return false;
        }
        for (int s = site; s < site + cell.width; s++) {
            if (barred(row, s) || fenceAt(row, s) != cell.fence) {
                return false;
            }
        }
        return true;
    }

    boolean lawful(int number, int row, int site) {
        if (!isCell(number) || !groundFor(cells.get(number), row, site)) {
            return false;
        }
        for (int s = site; s < site + cells.get(number).width; s++) {
            for (int other = 0; other < cells.size(); other++) {
                Cell cell = cells.get(other);
                if (other != number && cell.spot != null && cell.spot.row == row
                        && in(s, cell.spot.site, cell.spot.site + cell.width - 1)) {
                    return false;
                }
            }
        }
        return true;
    }

    private List<Run> runsOf(int row, int fence) {
        List<Run> found = new ArrayList<>();
        int first = -1;
        for (int site = 0; site <= sites; site++) {
            boolean open = site < sites && !barred(row, site) && !fixedAt(row, site) && fenceAt(row, site) == fence;
            if (open && first < 0) {
                first = site;
            }
            if (!open && first >= 0) {
                found.add(new Run(row, fence, first, site - first));
                first = -1;
            }
        }
        return found;
    }

    private List<Run> allRuns() {
        List<Run> found = new ArrayList<>();
        for (int row = 0; row < rows; row++) {
            for (int fence = -1; fence < fences.size(); fence++) {
                found.addAll(runsOf(row, fence));
            }
        }
        return found;
    }

    private List<Integer> lyingIn(Run run) {
        List<Integer> found = new ArrayList<>();
        for (int site = run.first; site < run.first + run.length; site++) {
            int cell = cellAt(run.row, site);
            if (cell >= 0 && !found.contains(cell)) {
                found.add(cell);
            }
        }
        return found;
    }

    // ---- the measures

    private int pinX(Pin pin, boolean atWants) {
        if (pin.head >= 200) {
            return 16 * pin.tail + 8;
        }
        Cell cell = cells.get(pin.head);
        int corner = atWants || cell.spot == null ? cell.x : 16 * cell.spot.site;
        return corner + 16 * pin.tail + 8;
    }

    private int pinY(Pin pin, boolean atWants) {
        if (pin.head >= 200) {
            return 16 * (pin.head - 200) + 8;
        }
        Cell cell = cells.get(pin.head);
        return (atWants || cell.spot == null ? cell.y : 16 * cell.spot.row) + 8;
    }

    private List<Integer> xs(Net net, boolean atWants) {
        return net.pins.stream().map(pin -> pinX(pin, atWants)).sorted().toList();
    }

    private List<Integer> ys(Net net, boolean atWants) {
        return net.pins.stream().map(pin -> pinY(pin, atWants)).sorted().toList();
    }

    private static int last(List<Integer> list) {
        return list.get(list.size() - 1);
    }

    private int span(Net net) {
        List<Integer> x = xs(net, false);
        List<Integer> y = ys(net, false);
        return last(x) - x.get(0) + terms[4] * (last(y) - y.get(0));
    }

    private int wire() {
        return nets.stream().mapToInt(net -> net.weight * span(net)).sum();
    }

    private int share(int far) {
        int share = 4096;
        int times = far / terms[0];
        for (int i = 0; i < times; i++) {
            share /= 2;
        }
        return times >= 13 ? 0 : share;
    }

    private int mean(List<Integer> fars) {
        long sum = 0;
        long shares = 0;
        for (int far : fars) {
            sum += (long) far * share(far);
            shares += share(far);
        }
        return (int) Math.floorDiv(sum, shares);
    }

    private int smoothSide(List<Integer> places) {
        int upper = last(places) - mean(places.stream().map(place -> last(places) - place).toList());
        int lower = places.get(0) + mean(places.stream().map(place -> place - places.get(0)).toList());
        return upper - lower;
    }

    private int smoothSpan(Net net) {
        return smoothSide(xs(net, true)) + terms[4] * smoothSide(ys(net, true));
    }

    private int smooth() {
        return nets.stream().mapToInt(net -> net.weight * smoothSpan(net)).sum();
    }

    private int binColumns() {
        return sites / 8 + (sites % 8 == 0 ? 0 : 1);
    }

    private int binCount() {
        return binColumns() * (rows / 2 + rows % 2);
    }

    private int binOfSite(int row, int site) {
        return row / 2 * binColumns() + site / 8;
    }

    private int supply(int bin) {
        int supply = 0;
        for (int row = 0; row < rows; row++) {
            for (int site = 0; site < sites; site++) {
                if (binOfSite(row, site) == bin && !barred(row, site) && !fixedAt(row, site)) {
                    supply += 256;
                }
            }
        }
        return supply;
    }

    private static int common(int a, int aEnd, int b, int bEnd) {
        return Math.max(0, Math.min(aEnd, bEnd) - Math.max(a, b));
    }

    private int needOf(int bin) {
        int left = bin % binColumns() * 128;
        int low = bin / binColumns() * 32;
        int need = 0;
        for (Cell cell : cells) {
            if (!cell.fixed) {
                need += common(cell.x, cell.x + 16 * cell.width, left, left + 128)
                        * common(cell.y, cell.y + 16, low, low + 32);
            }
        }
        return need;
    }

    private int over(int bin) {
        return Math.max(0, needOf(bin) - supply(bin) * terms[1] / 100);
    }

    private int overflow() {
        int all = 0;
        for (int bin = 0; bin < binCount(); bin++) {
            all += over(bin);
        }
        return all;
    }

    private int cost() {
        return 16 * smooth() + terms[2] * overflow();
    }

    private int demand(int bin) {
        int left = bin % binColumns() * 128;
        int low = bin / binColumns() * 32;
        int demand = 0;
        for (Net net : nets) {
            List<Integer> x = xs(net, false);
            List<Integer> y = ys(net, false);
            if (last(x) >= left && x.get(0) < left + 128 && last(y) >= low && y.get(0) < low + 32) {
                demand += net.weight;
            }
        }
        return demand;
    }

    private int move(Cell cell) {
        return cell.width * (Math.abs(16 * cell.spot.site - cell.x) + terms[4] * Math.abs(16 * cell.spot.row - cell.y));
    }

    // ---- the acts

    int terms(int what, int value) {
        return act(-1, () -> {
            int[] least = {1, 10, 0, 1, 1, 1};
            int[] most = {64, 100, 99, 64, 8, 99};
            need(in(what, 0, 5) && in(value, least[what], most[what]), -1);
            int was = terms[what];
            terms[what] = value;
            return was;
        });
    }

    int feed(int a, int b, int c, int d, int e) {
        if (tape.size() > 80) {
            return -1;
        }
        for (int number : new int[] {a, b, c, d, e}) {
            for (byte one : java.nio.ByteBuffer.allocate(4).putInt(number).array()) {
                tape.add(one & 255);
            }
        }
        return tape.size();
    }

    int end(int n) {
        if (!in(n, 0, tape.size())) {
            return -1;
        }
        tape.subList(n, tape.size()).clear();
        return n;
    }

    private boolean rectangle(int low, int high, int first, int last) {
        return in(low, 0, rows - 1) && in(high, low, rows - 1) && in(first, 0, sites - 1) && in(last, first, sites - 1);
    }

    private boolean anyFixedWithin(Box box) {
        for (int row = 0; row < rows; row++) {
            for (int site = 0; site < sites; site++) {
                if (box.has(row, site) && fixedAt(row, site)) {
                    return true;
                }
            }
        }
        return false;
    }

    private void loseUnlawful() {
        for (int i = 0; i < cells.size(); i++) {
            Cell cell = cells.get(i);
            if (!cell.fixed && cell.spot != null && !lawful(i, cell.spot.row, cell.spot.site)) {
                cells.set(i, cell.at(null));
            }
        }
    }

    int block(int low, int high, int first, int last, int halo) {
        return act(0, () -> {
            need(rectangle(low, high, first, last) && in(halo, 0, 4), -1);
            Box block = new Box(low, high, first, last, halo);
            need(!anyFixedWithin(block), -4);
            need(blocks.size() < 4, -5);
            blocks.add(block);
            loseUnlawful();
            return blocks.size() - 1;
        });
    }

    int fence(int low, int high, int first, int last) {
        return act(1, () -> {
            need(rectangle(low, high, first, last), -1);
            Box fence = new Box(low, high, first, last, 0);
            for (int row = low; row <= high; row++) {
                for (int site = first; site <= last; site++) {
                    need(fenceAt(row, site) < 0, -4);
                }
            }
            need(!anyFixedWithin(fence), -4);
            need(fences.size() < 3, -5);
            fences.add(fence);
            loseUnlawful();
            return fences.size() - 1;
        });
    }

    int cell(int width, int fence) {
        return act(2, () -> {
            need(in(width, 1, 6), -1);
            need(isFence(fence), -2);
            need(cells.size() < 20, -5);
            cells.add(new Cell(width, fence, false, 8 * (sites - width), 8 * (rows - 1), null));
            return cells.size() - 1;
        });
    }

    int net(int weight) {
        return act(3, () -> {
            need(in(weight, 1, 9), -1);
            need(nets.size() < 16, -5);
            List<Integer> bytes = new ArrayList<>(tape);
            tape.clear();
            need(bytes.size() % 2 == 0 && in(bytes.size() / 2, 2, 6), -6);
            List<Pin> pins = new ArrayList<>();
            for (int i = 0; i < bytes.size(); i += 2) {
                Pin pin = new Pin(bytes.get(i), bytes.get(i + 1));
                boolean pad = in(pin.head, 200, 200 + rows - 1) && pin.tail < sites;
                boolean ofCell = isCell(pin.head) && pin.tail < cells.get(pin.head).width
                        && pins.stream().noneMatch(other -> other.head == pin.head);
                need(pad || ofCell, -6);
                pins.add(pin);
            }
            nets.add(new Net(weight, pins));
            return nets.size() - 1;
        });
    }

    int drop(int net) {
        return act(4, () -> {
            need(in(net, 0, nets.size() - 1), -2);
            return nets.remove(net).pins.size();
        });
    }

    int want(int number, int x, int y) {
        return act(5, () -> {
            need(in(x, 0, 16 * (sites - 1)) && in(y, 0, 16 * (rows - 1)), -1);
            need(isCell(number), -2);
            Cell cell = cells.get(number);
            need(!cell.fixed && x <= 16 * (sites - cell.width), -4);
            cells.set(number, cell.wanting(x, y));
            return Math.abs(x - cell.x) + Math.abs(y - cell.y);
        });
    }

    int fix(int number, int row, int site) {
        return act(6, () -> {
            need(in(row, 0, rows - 1) && in(site, 0, sites - 1), -1);
            need(isCell(number), -2);
            Cell cell = cells.get(number);
            need(!cell.fixed && groundFor(cell, row, site), -4);
            cells.set(number, cell.at(null));
            int lost = 0;
            for (int s = site; s < site + cell.width; s++) {
                int there = cellAt(row, s);
                need(there < 0 || !cells.get(there).fixed, -4);
                if (there >= 0) {
                    cells.set(there, cells.get(there).at(null));
                    lost++;
                }
            }
            cells.set(number, cell.wanting(16 * site, 16 * row).fixed(true).at(new Spot(row, site)));
            return lost;
        });
    }

    int free(int number) {
        return act(7, () -> {
            need(isCell(number), -2);
            Cell cell = cells.get(number);
            need(cell.fixed, -4);
            cells.set(number, cell.fixed(false));
            return cell.spot.row;
        });
    }

    int put(int number, int row, int site) {
        return act(8, () -> {
            need(in(row, 0, rows - 1) && in(site, 0, sites - 1), -1);
            need(isCell(number), -2);
            need(!cells.get(number).fixed && lawful(number, row, site), -4);
            cells.set(number, cells.get(number).at(new Spot(row, site)));
            return wire();
        });
    }

    int take(int number) {
        return act(9, () -> {
            need(isCell(number), -2);
            Cell cell = cells.get(number);
            need(!cell.fixed && cell.spot != null, -4);
            cells.set(number, cell.at(null));
            return cell.spot.row;
        });
    }

    private Cell held(Cell cell, int x, int y) {
        int heldX = x;
        int heldY = y;
        if (cell.fence >= 0) {
            Box fence = fences.get(cell.fence);
            int greatest = fence.last - cell.width + 1;
            if (heldX > 16 * greatest) {
                heldX = 16 * greatest;
            }
            if (heldX < 16 * fence.first) {
                heldX = 16 * fence.first;
            }
            heldY = heldY < 16 * fence.low ? 16 * fence.low : heldY > 16 * fence.high ? 16 * fence.high : heldY;
        }
        int greatestX = 16 * (sites - cell.width);
        int greatestY = 16 * (rows - 1);
        return cell.wanting(heldX < 0 ? 0 : Math.min(heldX, greatestX), heldY < 0 ? 0 : Math.min(heldY, greatestY));
    }

    int start(int n) {
        return act(10, () -> {
            need(in(n, 1, 20), -1);
            List<Cell> before = new ArrayList<>(cells);
            for (int round = 0; round < n; round++) {
                for (int i = 0; i < cells.size(); i++) {
                    startCell(i);
                }
            }
            int others = 0;
            for (int i = 0; i < cells.size(); i++) {
                others += cells.get(i).x != before.get(i).x || cells.get(i).y != before.get(i).y ? 1 : 0;
            }
            return others;
        });
    }

    private void startCell(int number) {
        double weights = 0;
        double sumX = 0;
        double sumY = 0;
        for (Net net : nets) {
            for (Pin own : net.pins) {
                for (Pin other : net.pins) {
                    if (own.head == number && other != own) {
                        weights += net.weight;
                        sumX += net.weight * (pinX(other, true) - 16 * own.tail - 8);
                        sumY += net.weight * (pinY(other, true) - 8);
                    }
                }
            }
        }
        if (weights > 0 && !cells.get(number).fixed) {
            cells.set(number, held(cells.get(number), (int) Math.floor(sumX / weights), (int) Math.floor(sumY / weights)));
        }
    }

    int spread(int n) {
        return act(11, () -> {
            need(in(n, 1, 10), -1);
            int before = cost();
            for (int round = 0; round < n; round++) {
                for (int i = 0; i < cells.size(); i++) {
                    if (!cells.get(i).fixed) {
                        spreadCell(i);
                    }
                }
            }
            return before - cost();
        });
    }

    private void spreadCell(int number) {
        Cell now = cells.get(number);
        int step = terms[3];
        List<Cell> tries = List.of(now, held(now, now.x - step, now.y), held(now, now.x + step, now.y),
                held(now, now.x, now.y - step), held(now, now.x, now.y + step));
        Cell best = null;
        int least = 0;
        for (Cell one : tries) {
            cells.set(number, one);
            int cost = cost();
            if (best == null || cost < least) {
                best = one;
                least = cost;
            }
        }
        cells.set(number, best);
    }

    /** The sites of LEAST, the leftmost of like ones; null without room. By trying every one. */
    private int[] packed(List<Cell> list, Run run) {
        int many = list.size();
        int[] lengths = new int[many + 1];
        for (int i = many - 1; i >= 0; i--) {
            lengths[i] = lengths[i + 1] + list.get(i).width;
        }
        if (lengths[0] > run.length) {
            return null;
        }
        int[][] known = new int[many + 1][run.length + 1];
        for (int[] row : known) {
            Arrays.fill(row, -1);
        }
        int[] at = new int[many];
        int from = 0;
        for (int i = 0; i < many; i++) {
            int goal = leastFrom(list, i, from, run, known);
            while (packCost(list.get(i), run.first + from)
                    + leastFrom(list, i + 1, from + list.get(i).width, run, known) != goal) {
                from++;
            }
            at[i] = run.first + from;
            from += list.get(i).width;
        }
        return at;
    }

    private static int packCost(Cell cell, int site) {
        return cell.width * Math.abs(16 * site - cell.x);
    }

    private static int leastFrom(List<Cell> list, int i, int from, Run run, int[][] known) {
        if (i == list.size()) {
            return from <= run.length ? 0 : 1000000;
        }
        if (from >= run.length) {
            return 1000000;
        }
        if (known[i][from] < 0) {
            int least = 1000000;
            for (int s = from; s + list.get(i).width <= run.length; s++) {
                least = Math.min(least, packCost(list.get(i), run.first + s)
                        + leastFrom(list, i + 1, s + list.get(i).width, run, known));
            }
            known[i][from] = least;
        }
        return known[i][from];
    }

    private int least(List<Cell> list, Run run) {
        int[] at = packed(list, run);
        int all = 0;
        for (int i = 0; i < list.size(); i++) {
            all += packCost(list.get(i), at[i]);
        }
        return all;
    }

    private void makeLawful() {
        List<Integer> order = new ArrayList<>();
        for (int i = 0; i < cells.size(); i++) {
            if (!cells.get(i).fixed) {
                order.add(i);
                cells.set(i, cells.get(i).at(null));
            }
        }
        order.sort((a, b) -> cells.get(a).x != cells.get(b).x ? cells.get(a).x - cells.get(b).x : a - b);
        List<Run> all = allRuns();
        List<List<Integer>> members = new ArrayList<>();
        for (int i = 0; i < all.size(); i++) {
            members.add(new ArrayList<>());
        }
        for (int number : order) {
            members.get(cheapest(all, members, number)).add(number);
        }
        for (int i = 0; i < all.size(); i++) {
            int[] at = packed(cellsOf(members.get(i)), all.get(i));
            for (int k = 0; k < at.length; k++) {
                int number = members.get(i).get(k);
                cells.set(number, cells.get(number).at(new Spot(all.get(i).row, at[k])));
            }
        }
    }

    private List<Cell> cellsOf(List<Integer> numbers) {
        return numbers.stream().map(cells::get).toList();
    }

    private int cheapest(List<Run> all, List<List<Integer>> members, int number) {
        Cell cell = cells.get(number);
        int best = -1;
        int leastPrice = 0;
        for (int i = 0; i < all.size(); i++) {
            List<Cell> with = new ArrayList<>(cellsOf(members.get(i)));
            with.add(cell);
            if (all.get(i).fence == cell.fence && packed(with, all.get(i)) != null) {
                int price = least(with, all.get(i)) - least(cellsOf(members.get(i)), all.get(i))
                        + cell.width * terms[4] * Math.abs(16 * all.get(i).row - cell.y);
                if (best < 0 || price < leastPrice) {
                    best = i;
                    leastPrice = price;
                }
            }
        }
        need(best >= 0, -5);
        return best;
    }

    private int movesOfLoose() {
        return cells.stream().filter(cell -> !cell.fixed).mapToInt(this::move).sum();
    }

    int legal() {
        return act(12, () -> {
            makeLawful();
            return movesOfLoose();
        });
    }

    private static List<List<Integer>> orders(int many) {
        List<List<Integer>> found = new ArrayList<>();
        orders(new ArrayList<>(), many, found);
        return found;
    }

    private static void orders(List<Integer> head, int many, List<List<Integer>> found) {
        if (head.size() == many) {
            found.add(new ArrayList<>(head));
        }
        for (int i = 0; i < many; i++) {
            if (!head.contains(i)) {
                head.add(i);
                orders(head, many, found);
                head.remove(head.size() - 1);
            }
        }
    }

    private int pass(Runnable what) {
        int before = wire();
        what.run();
        return before - wire();
    }

    int windows(int k) {
        return act(13, () -> {
            need(in(k, 2, 4), -1);
            return pass(() -> {
                for (Run run : allRuns()) {
                    for (int from = 0; from + k <= lyingIn(run).size(); from++) {
                        window(lyingIn(run).subList(from, from + k), run.row);
                    }
                }
            });
        });
    }

    private void window(List<Integer> those, int row) {
        List<Cell> now = new ArrayList<>(cellsOf(those));
        List<Cell> all = new ArrayList<>(cells);
        List<Cell> best = null;
        int least = 0;
        for (List<Integer> order : orders(those.size())) {
            cells = new ArrayList<>(all);
            int site = now.get(0).spot.site;
            for (int i = 0; i < order.size(); i++) {
                Cell cell = now.get(order.get(i));
                cells.set(those.get(order.get(i)), cell.at(new Spot(row, site)));
                site += cell.width;
                if (i + 1 < order.size()) {
                    site += now.get(i + 1).spot.site - now.get(i).spot.site - now.get(i).width;
                }
            }
            if (best == null || wire() < least) {
                best = cells;
                least = wire();
            }
        }
        cells = best;
    }

    private boolean alike(int a, int b) {
        Cell one = cells.get(a);
        Cell two = cells.get(b);
        return a != b && !one.fixed && !two.fixed && one.spot != null && two.spot != null && one.width == two.width
                && one.fence == two.fence;
    }

    private void exchange(int a, int b) {
        Spot spot = cells.get(a).spot;
        cells.set(a, cells.get(a).at(cells.get(b).spot));
        cells.set(b, cells.get(b).at(spot));
    }

    int swaps() {
        return act(14, () -> pass(() -> {
            for (int a = 0; a < cells.size(); a++) {
                for (int b = a + 1; b < cells.size(); b++) {
                    if (alike(a, b)) {
                        int now = wire();
                        exchange(a, b);
                        if (wire() >= now) {
                            exchange(a, b);
                        }
                    }
                }
            }
        }));
    }

    int hops() {
        return act(15, () -> pass(() -> {
            for (int i = 0; i < cells.size(); i++) {
                if (!cells.get(i).fixed && cells.get(i).spot != null) {
                    hop(i);
                }
            }
        }));
    }

    private void hop(int number) {
        Cell best = cells.get(number);
        int least = wire();
        for (int row = 0; row < rows; row++) {
            for (int site = 0; site < sites; site++) {
                if (lawful(number, row, site)) {
                    int then = would(number, row, site);
                    if (then < least) {
                        least = then;
                        best = best.at(new Spot(row, site));
                    }
                }
            }
        }
        cells.set(number, best);
    }

    int sorts() {
        return act(16, () -> pass(() -> {
            for (int fence = -1; fence < fences.size(); fence++) {
                for (int width = 1; width <= 6; width++) {
                    sortGroup(group(fence, width));
                }
            }
        }));
    }

    private List<Integer> group(int fence, int width) {
        List<Integer> group = new ArrayList<>();
        for (int i = 0; i < cells.size(); i++) {
            Cell cell = cells.get(i);
            int number = i;
            if (!cell.fixed && cell.spot != null && cell.fence == fence && cell.width == width && group.size() < 5
                    && nets.stream().noneMatch(net -> net.has(number) && group.stream().anyMatch(net::has))) {
                group.add(i);
            }
        }
        return group;
    }

    private void sortGroup(List<Integer> group) {
        List<Spot> spots = group.stream().map(i -> cells.get(i).spot).toList();
        List<Integer> best = null;
        int least = 0;
        for (List<Integer> order : orders(group.size())) {
            giveSpots(group, spots, order);
            if (best == null || wire() < least) {
                best = order;
                least = wire();
            }
        }
        giveSpots(group, spots, best);
    }

    private void giveSpots(List<Integer> group, List<Spot> spots, List<Integer> order) {
        for (int i = 0; i < group.size(); i++) {
            cells.set(group.get(i), cells.get(group.get(i)).at(spots.get(order.get(i))));
        }
    }

    int shake(int seed, int n, int heat) {
        return act(17, () -> {
            need(in(seed, 0, 1000000) && in(n, 1, 60) && in(heat, 0, 9999), -1);
            need(!cells.isEmpty(), -4);
            return pass(() -> shakeCells(seed, n, heat));
        });
    }

    private void shakeCells(long seed, int n, int heatAtFirst) {
        long s = seed;
        int heat = heatAtFirst;
        List<Cell> best = new ArrayList<>(cells);
        int least = wire();
        for (int i = 0; i < n; i++) {
            s = (s * 1103 + 12345) % 1000003;
            int a = (int) (s % cells.size());
            s = (s * 1103 + 12345) % 1000003;
            int b = (int) (s % cells.size());
            if (alike(a, b)) {
                int now = wire();
                exchange(a, b);
                if (wire() > now + heat) {
                    exchange(a, b);
                }
            }
            heat = heat * 7 / 8;
            if (wire() < least) {
                least = wire();
                best = new ArrayList<>(cells);
            }
        }
        cells = best;
    }

    int undo() {
        return act(-1, () -> {
            need(!kept.isEmpty(), -4);
            Kept latest = kept.removeLast();
            blocks = latest.blocks;
            fences = latest.fences;
            cells = latest.cells;
            nets = latest.nets;
            return latest.act;
        });
    }

    // ---- what is told

    int cellOf(int number, int what) {
        if (!isCell(number)) {
            return -1;
        }
        Cell cell = cells.get(number);
        return switch (what) {
            case 0 -> cell.width;
            case 1 -> cell.fence;
            case 2 -> cell.fixed ? 1 : 0;
            case 3 -> cell.x;
            case 4 -> cell.y;
            case 5 -> cell.spot == null ? -1 : cell.spot.row;
            case 6 -> cell.spot == null ? -1 : cell.spot.site;
            case 7 -> (int) nets.stream().filter(net -> net.has(number)).count();
            case 8 -> cell.spot == null ? -1 : move(cell);
            default -> -1;
        };
    }

    int netOf(int number, int what) {
        if (!in(number, 0, nets.size() - 1)) {
            return -1;
        }
        Net net = nets.get(number);
        switch (what) {
            case 0:
                return net.weight;
            case 1:
                return net.pins.size();
            case 2:
                return span(net);
            case 3:
                return smoothSpan(net);
            default:
                for (int k = 0; k < net.pins.size(); k++) {
                    if (what == 10 + 2 * k) {
                        return net.pins.get(k).head;
                    }
                    if (what == 11 + 2 * k) {
                        return net.pins.get(k).tail;
                    }
                }
                return -1;
        }
    }

    int bin(int bin, int what) {
        if (!in(bin, 0, binCount() - 1)) {
            return -1;
        }
        return switch (what) {
            case 0 -> supply(bin);
            case 1 -> needOf(bin);
            case 2 -> over(bin);
            case 3 -> demand(bin);
            default -> -1;
        };
    }

    int measure(int what) {
        List<Integer> demands = new ArrayList<>();
        for (int bin = 0; bin < binCount(); bin++) {
            demands.add(demand(bin));
        }
        return switch (what) {
            case 0 -> wire();
            case 1 -> smooth();
            case 2 -> overflow();
            case 3 -> cost();
            case 4 -> cells.stream().filter(cell -> cell.spot != null).mapToInt(this::move).sum();
            case 5 -> (int) cells.stream().filter(cell -> cell.spot == null).count();
            case 6 -> Collections.max(demands);
            case 7 -> demands.indexOf(Collections.max(demands));
            case 8 -> (int) demands.stream().filter(demand -> demand > terms[5]).count();
            default -> -1;
        };
    }

    int runs(int row, int fence) {
        return in(row, 0, rows - 1) && isFence(fence) ? runsOf(row, fence).size() : -1;
    }

    int run(int row, int fence, int i, int what) {
        if (!in(row, 0, rows - 1) || !isFence(fence) || !in(i, 0, runsOf(row, fence).size() - 1)) {
            return -1;
        }
        Run run = runsOf(row, fence).get(i);
        List<Integer> lying = lyingIn(run);
        switch (what) {
            case 0:
                return run.first;
            case 1:
                return run.length;
            case 2:
                return lying.size();
            case 3:
                return run.length - lying.stream().mapToInt(cell -> cells.get(cell).width).sum();
            case 4:
                return least(cellsOf(lying), run);
            default:
                return what >= 10 && what - 10 < lying.size() ? lying.get(what - 10) : -1;
        }
    }

    int would(int number, int row, int site) {
        if (!isCell(number) || !inChip(cells.get(number).width, row, site)) {
            return -1;
        }
        Cell cell = cells.get(number);
        cells.set(number, cell.at(new Spot(row, site)));
        int then = wire();
        cells.set(number, cell);
        return then;
    }

    int best(int number, int what) {
        if (!isCell(number) || cells.get(number).spot == null || !in(what, 0, 2)) {
            return -1;
        }
        List<Integer> wires = new ArrayList<>();
        for (int site = 0; site + cells.get(number).width <= sites; site++) {
            wires.add(would(number, cells.get(number).spot.row, site));
        }
        int least = Collections.min(wires);
        return what == 0 ? wires.indexOf(least) : what == 1 ? wires.lastIndexOf(least) : least;
    }

    int lawfully(int what) {
        List<Cell> before = new ArrayList<>(cells);
        try {
            if (!in(what, 0, 1)) {
                return -1;
            }
            makeLawful();
            return what == 0 ? movesOfLoose() : wire();
        } catch (Refused by) {
            return what == 0 ? by.by : -1;
        } finally {
            cells = before;
        }
    }

    int fillers(int width) {
        if (width != 4 && width != 2 && width != 1) {
            return -1;
        }
        int found = 0;
        for (Run run : allRuns()) {
            int gap = 0;
            for (int site = run.first; site <= run.first + run.length; site++) {
                if (site < run.first + run.length && cellAt(run.row, site) < 0) {
                    gap++;
                } else {
                    for (int size : new int[] {4, 2, 1}) {
                        while (gap >= size) {
                            gap -= size;
                            found += size == width ? 1 : 0;
                        }
                    }
                }
            }
        }
        return found;
    }

    int count(int what) {
        return switch (what) {
            case 0 -> rows;
            case 1 -> sites;
            case 2 -> blocks.size();
            case 3 -> fences.size();
            case 4 -> cells.size();
            case 5 -> nets.size();
            case 6 -> binCount();
            case 7 -> kept.size();
            case 8 -> tape.size();
            case 9 -> refused[1];
            case 10 -> refused[2];
            case 11 -> refused[4];
            case 12 -> refused[5];
            case 13 -> refused[6];
            case 14, 15, 16, 17, 18, 19 -> terms[what - 14];
            default -> -1;
        };
    }

    int status() {
        return status;
    }
}
