import java.lang.reflect.InvocationTargetException;
import java.lang.reflect.Method;
import java.util.ArrayList;
import java.util.Arrays;
import java.util.List;

/** Every call with the least, the greatest and all the odd numbers between, on chips of several kinds: nothing is thrown. */
public final class ExtremeNumbersTest {
    private static final int[] FEW = {Integer.MIN_VALUE, -1, 0, 1, 7, Integer.MAX_VALUE};
    private static final int[] MANY = {Integer.MIN_VALUE, Integer.MIN_VALUE + 1, -1 << 30, -65536, -201, -100, -17, -16, -6, -5,
        -3, -2, -1, 0, 1, 2, 3, 4, 5, 6, 7, 8, 9, 10, 11, 12, 13, 15, 16, 17, 19, 20, 21, 31, 32, 33, 60, 61, 99, 100, 101, 112,
        127, 128, 199, 200, 207, 208, 255, 256, 496, 497, 9999, 10000, 65536, 1000000, 1000001, 1 << 30, Integer.MAX_VALUE - 16,
        Integer.MAX_VALUE - 1, Integer.MAX_VALUE};
    private static int asked = 0;

    private final CellRows real;
    private final PlainRows plain;

    private ExtremeNumbersTest(int rows, int sites) {
        real = new CellRows(rows, sites);
        plain = new PlainRows(rows, sites);
    }

    public static void main(String[] args) throws Exception {
        for (int kind = 0; kind < 4; kind++) {
            for (Method method : CellRows.class.getDeclaredMethods()) {
                if (java.lang.reflect.Modifier.isPublic(method.getModifiers())) {
                    everyNumber(kind, method);
                }
            }
        }
        System.out.println("ExtremeNumbersTest: " + asked + " answers are alike");
    }

    private static void everyNumber(int kind, Method method) throws Exception {
        List<int[]> rows = new ArrayList<>();
        int parameters = method.getParameterCount();
        fill(rows, new int[parameters], 0, parameters > 2 ? FEW : MANY);
        ExtremeNumbersTest pair = made(kind);
        int calls = 0;
        for (int[] row : rows) {
            if (calls > 400) {
                pair = made(kind);
                calls = 0;
            }
            calls++;
            pair.compare(method.getName(), row);
        }
    }

    private static void fill(List<int[]> rows, int[] row, int at, int[] numbers) {
        if (at == row.length) {
            rows.add(row.clone());
            return;
        }
        for (int number : numbers) {
            row[at] = number;
            fill(rows, row, at + 1, numbers);
        }
    }

    /** 0: an empty chip, 1: something of everything, 2: all full on the greatest chip, 3: all full on the least. */
    private static ExtremeNumbersTest made(int kind) throws Exception {
        boolean least = kind == 3;
        ExtremeNumbersTest pair = kind == 1 ? new ExtremeNumbersTest(3, 17)
                : new ExtremeNumbersTest(least ? 1 : 8, least ? 8 : 32);
        if (kind == 0) {
            return pair;
        }
        int blocks = kind == 1 ? 1 : 4;
        int fences = kind == 1 ? 1 : 3;
        for (int i = 0; i < blocks; i++) {
            pair.compare("block", 0, 0, 7, 7, i);
            pair.compare("block", 0, 0, 7, 7, 0);
        }
        for (int i = 0; i < fences; i++) {
            pair.compare("fence", 0, 0, i, i);
        }
        for (int i = 0; i < (kind == 1 ? 5 : 20); i++) {
            pair.compare("cell", kind == 2 ? 1 + i % 6 : 1, i % (fences + 1) - 1);
            pair.compare("put", i, i % 8, i % 32);
        }
        pair.compare("fix", 1, 0, 0);
        pair.compare("fix", 3, 1, 9);
        for (int i = 0; i < (kind == 1 ? 3 : 16); i++) {
            pair.compare("end", 0);
            pair.compare("feed", i << 24 | i + 1 << 8, 0xC800C807, 0, 0, 0);
            pair.compare("end", 8);
            pair.compare("net", 1 + i % 9);
        }
        return pair;
    }

    private void compare(String name, int... numbers) throws Exception {
        Class<?>[] types = new Class<?>[numbers.length];
        Arrays.fill(types, int.class);
        Object[] boxed = Arrays.stream(numbers).boxed().toArray();
        Method ofPlain = PlainRows.class.getDeclaredMethod(name, types);
        ofPlain.setAccessible(true);
        Object due = ofPlain.invoke(plain, boxed);
        Object got;
        try {
            got = CellRows.class.getDeclaredMethod(name, types).invoke(real, boxed);
        } catch (InvocationTargetException thrown) {
            got = thrown.getCause();
        }
        asked++;
        if (!due.equals(got)) {
            System.out.println(name + Arrays.toString(numbers) + " answered " + got + ", due is " + due);
            System.exit(1);
        }
    }
}
