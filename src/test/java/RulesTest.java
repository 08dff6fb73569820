import java.lang.management.ManagementFactory;
import java.lang.reflect.Modifier;
import java.nio.file.Files;
import java.nio.file.Path;
import java.util.Arrays;
import java.util.Set;
import java.util.TreeSet;
import java.util.regex.Matcher;
import java.util.regex.Pattern;

/** The face that the document asks for, the words that the language leaves out, and the room that a run takes. */
public final class RulesTest {
    private static final String SOURCE = "src/main/java/CellRows.java";
    private static final Set<String> FACE = new TreeSet<>(Arrays.asList(
            "terms/2", "feed/5", "end/1", "block/5", "fence/4", "cell/2", "net/1", "drop/1", "want/3", "fix/3", "free/1",
            "put/3", "take/1", "start/1", "spread/1", "legal/0", "windows/1", "swaps/0", "hops/0", "sorts/0", "shake/3",
            "undo/0", "cellOf/2", "netOf/2", "bin/2", "measure/1", "lawful/3", "runs/2", "run/4", "would/3", "best/2",
            "lawfully/1", "fillers/1", "count/1", "status/0"));
    private static int wrong = 0;

    public static void main(String[] args) throws Exception {
        face();
        String code = withoutComments(Files.readString(Path.of(SOURCE)));
        words(code);
        library(code);
        namesInside();
        shortMethods(code);
        fewFields();
        roomOfOneObject();
        callsMakeNothing();
        System.out.println("RulesTest: " + wrong + " wrong");
        if (wrong != 0) {
            System.exit(1);
        }
    }

    private static void hold(boolean holds, String what) {
        if (!holds) {
            wrong++;
            System.out.println("not kept: " + what);
        }
    }

    private static void face() throws Exception {
        Class<CellRows> type = CellRows.class;
        hold(Modifier.isPublic(type.getModifiers()) && Modifier.isFinal(type.getModifiers()), "a public final class");
        Set<String> open = new TreeSet<>();
        for (var method : type.getDeclaredMethods()) {
            if (!Modifier.isPrivate(method.getModifiers())) {
                open.add(method.getName() + "/" + method.getParameterCount());
                boolean bool = method.getName().equals("lawful");
                hold(method.getReturnType() == (bool ? boolean.class : int.class), "what " + method.getName() + " answers");
                hold(Arrays.stream(method.getParameterTypes()).allMatch(p -> p == int.class), "ints for " + method.getName());
                hold(Modifier.isPublic(method.getModifiers()) && !Modifier.isStatic(method.getModifiers()), "public face");
            } else {
                String name = method.getName();
                hold(FACE.stream().noneMatch(one -> one.startsWith(name + "/")), "a private name of its own: " + name);
            }
        }
        hold(open.equals(FACE), "the methods of the document: " + open);
        for (var field : type.getDeclaredFields()) {
            hold(Modifier.isPrivate(field.getModifiers()) || field.getName().equals("NONE"), "private " + field.getName());
        }
        hold(type.getField("NONE").getInt(null) == -1, "NONE");
        hold(type.getDeclaredConstructors().length == 1, "one constructor");
    }

    private static String withoutComments(String source) {
        return source.replaceAll("(?s)/\\*.*?\\*/", "").replaceAll("//[^\n]*", "");
    }

    private static void words(String code) {
        for (String word : new String[] {"throw", "throws", "try", "catch", "finally", "synchronized", "assert", "import",
            "package", "double", "float", "volatile", "native", "hashCode", "toString", "\\w+Exact"}) {
            hold(!Pattern.compile("\\b" + word + "\\b").matcher(code).find(), "without " + word);
        }
        hold(!code.contains("->") && !code.contains("::"), "without lambdas and method references");
        Matcher statics = Pattern.compile("static (?!final)(\\w+(\\[\\])*) \\w+ *[=;]").matcher(code);
        hold(!statics.find(), "static fields are final");
        Matcher nested = Pattern.compile("\n    (\\w+ )*class \\w+").matcher(code);
        int classes = 1;
        while (nested.find()) {
            classes++;
            hold(nested.group().contains("static"), "static classes inside: " + nested.group().trim());
        }
        hold(classes <= 12, "some twelve classes, not " + classes);
    }

    /** Rule 4: nothing of the library but what it lists (here: what of that the class has use for), over numbers alone. */
    private static void library(String code) {
        Set<String> listed = Set.of("Math.max", "Math.min", "Math.abs", "Math.floorDiv", "System.arraycopy");
        Matcher call = Pattern.compile("\\b(Math|System|Integer|Long|Arrays|List|String|Object|Runtime|Thread)\\.\\w+").matcher(code);
        while (call.find()) {
            hold(listed.contains(call.group()), "of the library " + call.group());
        }
        Matcher flags = Pattern.compile("boolean\\[\\] (\\w+)").matcher(code);
        while (flags.find()) {
            hold(!Pattern.compile("arraycopy\\([^;]*\\b" + flags.group(1) + "\\b").matcher(code).find(),
                    "copies of arrays of numbers alone, not of " + flags.group(1));
        }
    }

    /** Rule 1: no private method has the name of a public one, in the classes inside neither. */
    private static void namesInside() {
        for (Class<?> inside : CellRows.class.getDeclaredClasses()) {
            for (var method : inside.getDeclaredMethods()) {
                String name = method.getName();
                hold(FACE.stream().noneMatch(one -> one.startsWith(name + "/")), "a name of its own: " + name);
            }
        }
    }

    private static void shortMethods(String code) {
        Pattern head = Pattern.compile("^( {4}| {8})(?! |if|for|while)[\\w\\[\\] ]+\\(([^()]*)\\) \\{$");
        String[] lines = code.split("\n");
        for (int i = 0; i < lines.length; i++) {
            Matcher found = head.matcher(lines[i]);
            if (found.matches()) {
                int end = i;
                while (end < lines.length && !lines[end].equals(found.group(1) + "}")) {
                    end++;
                }
                hold(end - i < 60, "a short method: " + lines[i].trim());
                hold(found.group(2).split(",").length <= 7, "seven parameters: " + lines[i].trim());
            }
        }
    }

    private static void fewFields() {
        hold(fieldsOf(CellRows.class) <= 20, "twenty fields");
        for (Class<?> inside : CellRows.class.getDeclaredClasses()) {
            hold(fieldsOf(inside) <= 20, "twenty fields in " + inside.getName());
        }
    }

    private static long fieldsOf(Class<?> type) {
        return Arrays.stream(type.getDeclaredFields()).filter(f -> !Modifier.isStatic(f.getModifiers())).count();
    }

    private static long allocated() {
        var threads = (com.sun.management.ThreadMXBean) ManagementFactory.getThreadMXBean();
        return threads.getThreadAllocatedBytes(Thread.currentThread().getId());
    }

    private static void roomOfOneObject() {
        new CellRows(8, 32);
        allocated();
        long before = allocated();
        CellRows x = new CellRows(8, 32);
        long room = allocated() - before;
        hold(x.status() == 0 && room < 100_000, "the room of one object: " + room + " bytes");
    }

    /** All rows are made with the object: a run of any calls makes nothing more. */
    private static void callsMakeNothing() {
        CellRows warm = new CellRows(8, 32);
        everyCall(warm, 3);
        CellRows x = new CellRows(8, 32);
        allocated();
        long before = allocated();
        everyCall(x, 40);
        long made = allocated() - before;
        hold(made < 1_000, "calls that make nothing: " + made + " bytes");
    }

    private static int everyCall(CellRows x, int times) {
        int sum = 0;
        for (int i = 0; i < times; i++) {
            sum += x.terms(i % 6, 10) + x.fence(0, 1, i, i + 2) + x.block(2, 2, i, i, 1) + x.cell(1 + i % 4, i % 3 - 1);
            sum += x.end(0) + x.feed(i % 8 << 24 | 0xC903, 0, 0, 0, 0) + x.end(4) + x.net(1 + i % 9);
            sum += x.want(i % 8, 16 * i % 300, i) + x.legal() + x.windows(2 + i % 3) + x.swaps() + x.sorts();
            sum += x.shake(i, 20, 99) + x.hops() + x.start(2) + x.spread(2) + x.fix(i % 5, 4, i % 20) + x.free(i % 7);
            sum += x.put(i % 8, 5, i % 20) + x.take(i % 9) + x.drop(i % 16) + x.undo() + x.undo();
            for (int what = 0; what < 20; what++) {
                sum += x.cellOf(i % 8, what) + x.netOf(0, what) + x.bin(0, what) + x.measure(what) + x.count(what);
                sum += x.run(0, -1, 0, what) + x.best(i % 8, what) + x.lawfully(what) + x.fillers(what);
            }
            sum += x.runs(0, -1) + x.would(0, 0, 0) + (x.lawful(0, 0, 0) ? 1 : 0) + x.status();
        }
        return sum;
    }
}
