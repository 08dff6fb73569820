import java.lang.reflect.Method;
import java.nio.file.Files;
import java.nio.file.Path;
import java.util.Arrays;
import java.util.Map;
import java.util.Set;
import java.util.TreeMap;
import java.util.TreeSet;
import java.util.regex.Matcher;
import java.util.regex.Pattern;

/** README.md: its example answers what it says, its tables and its quotes agree with the document. */
public final class ReadmeTest {
    private static final Path README = Path.of("README.md");
    private static final Path DOCUMENT = Path.of("../shared/DOC.md");
    private static final String WHOLE_RULE =
            "\"What is REFUSED changes nothing but what is told of it (the TAPE, as told).\"";
    private static int asked = 0;
    private static int wrong = 0;

    public static void main(String[] args) throws Exception {
        String readme = Files.readString(README);
        String document = Files.readString(DOCUMENT);
        example(readme);
        calls(readme, document);
        refusals(readme, document);
        quotes(readme, document);
        everyTestIsNamed(readme);
        System.out.println("ReadmeTest: " + asked + " looked at, " + wrong + " wrong");
        if (wrong != 0) {
            System.exit(1);
        }
    }

    private static void hold(boolean holds, String what) {
        asked++;
        if (!holds) {
            wrong++;
            System.out.println("README.md: " + what);
        }
    }

    // ---- the example

    /** Each line of it is a call and, behind it, what it answers. */
    private static void example(String readme) throws Exception {
        Matcher block = Pattern.compile("(?s)```java\n(CellRows chip = new CellRows\\((\\d+), (\\d+)\\);.*?)```").matcher(readme);
        boolean found = block.find();
        hold(found, "has an example that begins with a new object");
        if (!found) {
            return;
        }
        String[] lines = block.group(1).split("\n");
        CellRows chip = new CellRows(Integer.parseInt(block.group(2)), Integer.parseInt(block.group(3)));
        Set<String> answers = new TreeSet<>();
        for (int i = 1; i < lines.length; i++) {
            Matcher line = Pattern.compile("chip\\.(\\w+)\\(([^)]*)\\); +// (-?\\d+): .+").matcher(lines[i]);
            boolean readable = line.matches();
            hold(readable, "a call and its answer: " + lines[i]);
            if (!readable) {
                continue;
            }
            String got = String.valueOf(answerOf(chip, line.group(1), line.group(2)));
            hold(got.equals(line.group(3)), lines[i] + " answered " + got);
            answers.add(line.group(1) + " " + got);
        }
        hold(answers.contains("net -6"), "the example shows what becomes of the tape by -6");
    }

    private static Object answerOf(CellRows chip, String name, String list) throws Exception {
        String[] texts = list.isEmpty() ? new String[0] : list.split(", ");
        Class<?>[] types = new Class<?>[texts.length];
        Object[] numbers = new Object[texts.length];
        for (int i = 0; i < texts.length; i++) {
            types[i] = int.class;
            numbers[i] = texts[i].equals("CellRows.NONE") ? CellRows.NONE : Integer.decode(texts[i]);
        }
        return CellRows.class.getMethod(name, types).invoke(chip, numbers);
    }

    // ---- the tables

    /** The rows of the tables that begin with a call, by the name of the call. */
    private static Map<String, String[]> rowsOf(String readme) {
        Map<String, String[]> rows = new TreeMap<>();
        Matcher row = Pattern.compile("(?m)^\\| `(\\w+)(\\([^)]*\\))` \\|(.*)\\|$").matcher(readme);
        while (row.find()) {
            hold(!rows.containsKey(row.group(1)), row.group(1) + " is there once");
            String[] columns = row.group(3).split("\\|", -1);
            String[] all = Arrays.copyOf(new String[] {row.group(2)}, columns.length + 1);
            System.arraycopy(columns, 0, all, 1, columns.length);
            rows.put(row.group(1), all);
        }
        return rows;
    }

    private static void calls(String readme, String document) {
        Map<String, String[]> rows = rowsOf(readme);
        Set<String> face = new TreeSet<>();
        Matcher call = Pattern.compile("(?m)^    public (?:int|boolean) (\\w+)\\(([^)]*)\\);$").matcher(document);
        while (call.find()) {
            face.add(call.group(1));
            String[] row = rows.get(call.group(1));
            hold(row != null && row[0].equals("(" + call.group(2).replace("int ", "") + ")"), "the call " + call.group(1));
        }
        hold(rows.keySet().equals(face), "all calls and no others: " + rows.keySet());
        Set<String> ofClass = new TreeSet<>();
        for (Method method : CellRows.class.getDeclaredMethods()) {
            if (java.lang.reflect.Modifier.isPublic(method.getModifiers())) {
                ofClass.add(method.getName());
            }
        }
        hold(ofClass.equals(face), "the calls of the class");
    }

    /** Only the acts, promises 2 to 23, are ever REFUSED; the document names the numbers with each. */
    private static void refusals(String readme, String document) {
        Map<String, String[]> rows = rowsOf(readme);
        Matcher promise = Pattern.compile("(?s)## Promise (\\d+): (\\w+)\n(.*?)(?=\n## )").matcher(document);
        int acts = 0;
        while (promise.find()) {
            int number = Integer.parseInt(promise.group(1));
            if (number >= 2 && number <= 23) {
                acts++;
                String[] row = rows.getOrDefault(promise.group(2), new String[0]);
                hold(row.length == 4, promise.group(2) + " has what it is refused by");
                String told = row.length == 4 ? row[3] : "";
                hold(numbersBelowNone(told).equals(numbersBelowNone(promise.group(3))),
                        promise.group(2) + " is refused by " + numbersBelowNone(promise.group(3)) + ", not " + told);
            }
        }
        hold(acts == 22, "22 acts");
    }

    private static Set<String> numbersBelowNone(String text) {
        Set<String> found = new TreeSet<>();
        Matcher number = Pattern.compile("(?<![\\w.])-[1-6]\\b").matcher(text);
        while (number.find()) {
            found.add(number.group());
        }
        return found;
    }

    // ---- the quotes

    private static void quotes(String readme, String document) {
        String page = readme.replaceAll("(?s)```.*?```", "").replaceAll("\\s+", " ");
        String words = document.replaceAll("\\s+", " ");
        Matcher quote = Pattern.compile("\"([^\"]+)\"").matcher(page);
        int quoted = 0;
        while (quote.find()) {
            quoted++;
            hold(words.contains(quote.group(1)), "in the document: " + quote.group(1));
        }
        hold(quoted >= 3, "quotes what the document says of refusals");
        hold(page.contains(WHOLE_RULE), "says the whole rule of what is refused");
        hold(page.contains("\"The TAPE is empty then (by -6, too).\""), "says what becomes of the tape");
        hold(!page.replace(WHOLE_RULE, "").matches(".*[Rr](efused|EFUSED)[^.]*changes nothing.*"),
                "does not say less: that a refused call changes nothing at all");
    }

    private static void everyTestIsNamed(String readme) throws Exception {
        try (var files = Files.list(Path.of("src/test/java"))) {
            for (Path file : files.filter(one -> one.toString().endsWith("Test.java")).toList()) {
                hold(readme.contains("`src/test/java/" + file.getFileName() + "`"), "names " + file.getFileName());
            }
        }
    }
}
