import java.lang.reflect.Method;
import java.util.ArrayList;
import java.util.Arrays;
import java.util.Collections;
import java.util.Comparator;
import java.util.List;
import java.util.Random;

/**
 * Runs of as many calls as the document allows for one object, all parts of the class mixed, each
 * answer compared with the plain model's.
 */
public final class LongRunTest {
    private static final Check CHECK = new Check("LongRunTest");
    private static final int MOST_CALLS = 512;
    private static final int RUNS = 600;
    private static final int[] ODD_VALUES = {Integer.MIN_VALUE, -1, 0, 1, 8, 9, 10, 12, 13, 31, 32,
        59, 60, 64, 100, 101, 126, 127, 255, 256, 1000, 1001, Integer.MAX_VALUE};

    // The first call of a part is the one that fills it.
    private static final List<List<String>> PARTS = List.of(
        List.of("unit", "broken", "line", "rest"),
        List.of("box", "pages", "put"),
        List.of("cage", "lines", "drawn"),
        List.of("code", "rows", "dark", "spoil", "read", "byteAt"),
        List.of("read", "spoil", "code", "byteAt"));
    private static final List<String> EMPTYING = List.of("clear", "grid", "wipe");

    public static void main(String[] args) throws ReflectiveOperationException {
        CHECK.by("What it is: an object is used for at most 512 calls after it has been made");
        for (int seed = 0; seed < RUNS; seed++) {
            dueRun(new Random(seed), "run " + seed);
        }
        CHECK.end();
    }

    private static void dueRun(Random random, String name) throws ReflectiveOperationException {
        PageForms forms = new PageForms();
        Model model = new Model();
        List<Method> calls = chosenCalls(random);
        int wildness = random.nextInt(20);
        for (int i = 1; i <= MOST_CALLS; i++) {
            Method call = calls.get(random.nextInt(calls.size()));
            int[] values = new int[call.getParameterCount()];
            for (int at = 0; at < values.length; at++) {
                boolean odd = random.nextInt(100) < wildness;
                values[at] = odd ? ODD_VALUES[random.nextInt(ODD_VALUES.length)]
                    : usualValue(call.getName(), at, random);
            }
            CHECK.due(name + ", call " + i + ": " + call.getName() + Arrays.toString(values),
                answer(forms, call, values), model.answer(call.getName(), values));
        }
    }

    // Each call as often as it is among the chosen ones. One part of the class is used most, so
    // that it fills up, and what empties a part comes seldom.
    private static List<Method> chosenCalls(Random random) {
        List<Method> chosen = new ArrayList<>();
        List<String> most = PARTS.get(random.nextInt(PARTS.size()));
        for (Method method : PageForms.class.getMethods()) {
            String name = method.getName();
            if (method.getDeclaringClass() == PageForms.class) {
                int often = EMPTYING.contains(name) ? 1 : most.contains(name) ? 30 : 3;
                int times = name.equals(most.get(0)) ? often * 4 : often;
                chosen.addAll(Collections.nCopies(times, method));
            }
        }
        chosen.sort(Comparator.comparing(Method::toString));
        return chosen;
    }

    private static int usualValue(String call, int at, Random random) {
        return switch (call + at) {
            case "unit0" -> random.nextInt(4) == 0 ? 32 : 32 + random.nextInt(95);
            case "broken0" -> 1 + random.nextInt(random.nextBoolean() ? 30 : 100);
            case "line0" -> random.nextInt(random.nextBoolean() ? 4 : 20);
            case "box0", "pages0", "put1" -> 1 + random.nextInt(random.nextBoolean() ? 30 : 1000);
            case "pages1", "put2" -> random.nextInt(random.nextBoolean() ? 5 : 101);
            case "put0" -> random.nextInt(60);
            case "put3" -> random.nextInt(2);
            case "grid0", "grid1" -> 1 + random.nextInt(8);
            case "cage0" -> random.nextInt(random.nextBoolean() ? 16 : 64);
            case "cage1" -> random.nextInt(random.nextBoolean() ? 2 : 10);
            case "drawn0" -> random.nextInt(random.nextBoolean() ? 20 : 145);
            case "drawn1" -> random.nextInt(5);
            case "code0" -> random.nextInt(256);
            case "dark0", "spoil0" -> random.nextInt(9);
            case "dark1", "spoil1" -> random.nextInt(13);
            case "byteAt0" -> random.nextInt(12);
            default -> throw new IllegalArgumentException(call + at);
        };
    }

    private static long answer(PageForms forms, Method call, int[] values)
        throws ReflectiveOperationException {
        Object got = call.invoke(forms, Arrays.stream(values).boxed().toArray());
        if (got instanceof Boolean) {
            return got.equals(true) ? 1 : 0;
        }
        return got == null ? 0 : (Integer) got;
    }
}
