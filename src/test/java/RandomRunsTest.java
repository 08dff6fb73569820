import java.lang.reflect.Method;
import java.util.ArrayList;
import java.util.Arrays;
import java.util.HashMap;
import java.util.List;
import java.util.Map;
import java.util.Random;

/** Long runs of drawn calls, the same on CellRows and on PlainRows: every answer must be the same. */
public final class RandomRunsTest {
    private static final int ALL_TOLD = 25;
    private static final Map<String, Method> OF_CELL_ROWS = methodsOf(CellRows.class);
    private static final Map<String, Method> OF_PLAIN_ROWS = methodsOf(PlainRows.class);
    private static final String[] BUILD = {"cell", "cell", "cell", "net", "net", "net", "net", "fence", "block", "want",
        "want", "fix", "put", "put", "legal", "terms"};
    private static final String[] PLACE = {"terms", "terms", "feed", "end", "block", "fence", "cell", "net", "net",
        "drop", "want", "want", "want", "fix", "free", "put", "put", "put", "put", "take", "start", "spread", "legal",
        "legal", "windows", "windows", "swaps", "hops", "sorts", "sorts", "shake", "shake", "undo", "undo"};
    private static final String[] CROWD = {"want", "want", "want", "want", "want", "want", "legal", "legal", "legal",
        "windows", "swaps", "sorts", "shake", "hops", "spread", "start", "undo", "drop", "net", "terms", "fix", "free",
        "cell", "feed"};
    private static final String[] TELL = {"cellOf", "netOf", "bin", "measure", "lawful", "runs", "run", "would", "best",
        "lawfully", "fillers", "count", "status"};

    private final Random random;
    private final CellRows real;
    private final PlainRows plain;
    private final int rows;
    private final int sites;
    private final List<String> story = new ArrayList<>();

    private RandomRunsTest(long seed) {
        random = new Random(seed);
        rows = random.nextInt(10);
        sites = 6 + random.nextInt(random.nextBoolean() ? 10 : 30);
        real = new CellRows(rows, sites);
        plain = new PlainRows(rows, sites);
        story.add("new CellRows(" + rows + ", " + sites + ")");
    }

    public static void main(String[] args) throws Exception {
        int many = args.length > 0 ? Integer.parseInt(args[0]) : 400;
        long from = args.length > 1 ? Long.parseLong(args[1]) : 1;
        for (long seed = from; seed < from + many; seed++) {
            new RandomRunsTest(seed).go();
        }
        System.out.println("RandomRunsTest: " + many + " runs are alike");
    }

    private static Map<String, Method> methodsOf(Class<?> type) {
        Map<String, Method> found = new HashMap<>();
        for (Method method : type.getDeclaredMethods()) {
            boolean face = Arrays.stream(CellRows.class.getMethods()).anyMatch(one -> one.getName().equals(method.getName())
                    && Arrays.equals(one.getParameterTypes(), method.getParameterTypes()));
            if (face) {
                method.setAccessible(true);
                found.put(method.getName(), method);
            }
        }
        return found;
    }

    private void go() throws Exception {
        boolean crowded = random.nextBoolean();
        if (crowded) {
            buildCrowd();
        } else {
            buildAnything();
        }
        String[] acts = crowded ? CROWD : PLACE;
        int placing = 20 + random.nextInt(60);
        for (int i = 0; i < placing; i++) {
            act(acts[random.nextInt(acts.length)]);
            call("status");
            call(TELL[random.nextInt(TELL.length)]);
            if (random.nextInt(ALL_TOLD) == 0) {
                compareAll();
            }
        }
        compareAll();
    }

    private void buildAnything() throws Exception {
        int building = 10 + random.nextInt(50);
        for (int i = 0; i < building; i++) {
            act(BUILD[random.nextInt(BUILD.length)]);
        }
    }

    /** Many narrow CELLS and many NETS: what the passes have much to do with. */
    private void buildCrowd() throws Exception {
        if (random.nextInt(3) == 0) {
            call("fence");
            call("block");
        }
        int many = 4 + random.nextInt(18);
        int widest = 1 + random.nextInt(4);
        for (int i = 0; i < many; i++) {
            compare("cell", 1 + random.nextInt(widest), random.nextInt(4) == 0 ? aFence() : -1);
        }
        int tied = 2 + random.nextInt(16);
        for (int i = 0; i < tied; i++) {
            writeTape();
            compare("net", 1 + random.nextInt(9));
        }
        for (int i = 0; i < many; i++) {
            callWant();
        }
        call("legal");
    }

    private int now(int what) {
        return plain.count(what);
    }

    /** Mostly a number of the range, at times just outside of it, seldom any at all. */
    private int near(int least, int most) {
        int die = random.nextInt(60);
        if (die == 0) {
            return random.nextInt();
        }
        if (die <= 2) {
            return die == 1 ? least - 1 : most + 1;
        }
        return most < least ? least : least + random.nextInt(most - least + 1);
    }

    private int aCell() {
        return near(0, now(4) - 1);
    }

    private int aFence() {
        return near(-1, now(3) - 1);
    }

    private int aRow() {
        return near(0, now(0) - 1);
    }

    private int aSite() {
        return near(0, now(1) - 1);
    }

    private void act(String name) throws Exception {
        if (name.equals("net") && random.nextInt(12) > 0) {
            writeTape();
        }
        call(name);
    }

    private void writeTape() throws Exception {
        compare("end", 0);
        int pins = near(2, 6);
        byte[] bytes = new byte[20];
        List<Integer> numbers = new ArrayList<>();
        for (int i = 0; i < now(4); i++) {
            numbers.add(i);
        }
        java.util.Collections.shuffle(numbers, random);
        int used = 0;
        for (int k = 0; k < 10; k++) {
            boolean pad = random.nextInt(5) == 0 || used >= numbers.size();
            int cell = pad ? 0 : numbers.get(random.nextInt(40) == 0 ? 0 : used);
            used += pad ? 0 : 1;
            bytes[2 * k] = (byte) (pad ? 200 + aRow() : cell);
            bytes[2 * k + 1] = (byte) (pad ? aSite() : near(0, plain.cellOf(cell, 0) - 1));
        }
        java.nio.ByteBuffer all = java.nio.ByteBuffer.wrap(bytes);
        compare("feed", all.getInt(), all.getInt(), all.getInt(), all.getInt(), all.getInt());
        compare("end", random.nextInt(25) == 0 ? 2 * pins + 1 : 2 * pins);
    }

    private void call(String name) throws Exception {
        switch (name) {
            case "terms" -> callTerms();
            case "feed" -> compare(name, random.nextInt(), random.nextInt(), random.nextInt(), random.nextInt(), 0);
            case "end" -> compare(name, near(0, now(8)));
            case "block" -> callRectangle(name, random.nextInt(9) == 0 ? near(0, 4) : near(0, 1));
            case "fence" -> callRectangle(name);
            case "cell" -> compare(name, random.nextInt(3) == 0 ? near(1, 6) : near(1, 3), aFence());
            case "net" -> compare(name, near(1, 9));
            case "drop" -> compare(name, near(0, now(5) - 1));
            case "want" -> callWant();
            case "fix", "put", "lawful", "would" -> compare(name, aCell(), aRow(), aSite());
            case "free", "take" -> compare(name, aCell());
            case "start" -> compare(name, random.nextInt(4) == 0 ? near(1, 20) : near(1, 3));
            case "spread" -> compare(name, random.nextInt(9) == 0 ? near(1, 10) : near(1, 2));
            case "windows" -> compare(name, near(2, 4));
            case "shake" -> compare(name, near(0, 1000000), near(1, 60), random.nextBoolean() ? near(0, 9999) : near(0, 400));
            case "cellOf" -> compare(name, aCell(), near(0, 8));
            case "netOf" -> compare(name, near(0, now(5) - 1), near(0, 22));
            case "bin" -> compare(name, near(0, now(6) - 1), near(0, 3));
            case "measure" -> compare(name, near(0, 8));
            case "runs" -> compare(name, aRow(), aFence());
            case "run" -> compare(name, aRow(), aFence(), near(0, 1), random.nextBoolean() ? near(0, 4) : near(5, 15));
            case "best" -> compare(name, aCell(), near(0, 2));
            case "lawfully" -> compare(name, near(0, 1));
            case "fillers" -> compare(name, near(1, 4));
            case "count" -> compare(name, near(0, 19));
            default -> compare(name);
        }
    }

    private void callTerms() throws Exception {
        int[] least = {1, 10, 0, 1, 1, 1};
        int[] most = {64, 100, 99, 64, 8, 99};
        int what = near(0, 5);
        compare("terms", what, what < 0 || what > 5 ? 10 : near(least[what], most[what]));
    }

    private void callRectangle(String name, int... more) throws Exception {
        int low = aRow();
        int first = aSite();
        int high = random.nextInt(20) == 0 ? aRow() : Math.min(now(0) - 1, low + random.nextInt(4));
        int last = random.nextInt(20) == 0 ? aSite() : Math.min(now(1) - 1, first + random.nextInt(name.equals("fence") ? 14 : 5));
        if (more.length > 0) {
            compare(name, low, high, first, last, more[0]);
        } else {
            compare(name, low, high, first, last);
        }
    }

    private void callWant() throws Exception {
        int cell = aCell();
        int width = Math.max(1, plain.cellOf(cell, 0));
        compare("want", cell, near(0, 16 * (now(1) - width)), near(0, 16 * (now(0) - 1)));
    }

    private void compareAll() throws Exception {
        for (int what = -1; what <= 20; what++) {
            compare("count", what);
            compare("measure", what);
        }
        for (int i = 0; i < now(4); i++) {
            for (int what = -1; what <= 9; what++) {
                compare("cellOf", i, what);
                compare("best", i, what);
            }
        }
        for (int i = 0; i < now(5); i++) {
            for (int what = -1; what <= 23; what++) {
                compare("netOf", i, what);
            }
        }
        for (int i = 0; i < now(6); i++) {
            for (int what = -1; what <= 4; what++) {
                compare("bin", i, what);
            }
        }
        for (int row = 0; row < now(0); row++) {
            for (int fence = -1; fence < now(3); fence++) {
                compare("runs", row, fence);
                for (int i = 0; i < plain.runs(row, fence); i++) {
                    for (int what = -1; what <= 14; what++) {
                        compare("run", row, fence, i, what);
                    }
                }
            }
        }
        for (int what = -1; what <= 5; what++) {
            compare("fillers", what);
            compare("lawfully", what);
        }
    }

    private void compare(String name, int... args) throws Exception {
        Object[] boxed = Arrays.stream(args).boxed().toArray();
        String text = name + Arrays.toString(args);
        Object due = OF_PLAIN_ROWS.get(name).invoke(plain, boxed);
        story.add(text + " = " + due);
        Object got;
        try {
            got = OF_CELL_ROWS.get(name).invoke(real, boxed);
        } catch (java.lang.reflect.InvocationTargetException thrown) {
            got = thrown.getCause();
        }
        if (!due.equals(got)) {
            story.forEach(System.out::println);
            System.out.println(text + " answered " + got + ", due is " + due);
            System.exit(1);
        }
    }
}
