import java.lang.reflect.Constructor;
import java.lang.reflect.Field;
import java.lang.reflect.Method;
import java.lang.reflect.Modifier;
import java.util.Random;
import java.util.Set;
import java.util.TreeSet;

/** The document's public face, and that no call ever throws, whatever it is given. */
public final class FaceTest {
    private static final Check CHECK = new Check("FaceTest");
    private static final int[] VALUES = {Integer.MIN_VALUE, Integer.MIN_VALUE + 1, -1000, -1, 0, 1,
        2, 3, 4, 5, 7, 8, 9, 12, 13, 31, 32, 59, 60, 63, 64, 97, 99, 100, 101, 126, 127, 199, 200,
        255, 256, 999, 1000, 1001, 65536, Integer.MAX_VALUE - 1, Integer.MAX_VALUE};

    public static void main(String[] args) throws ReflectiveOperationException {
        CHECK.by("The public face");
        faceIsTheDocuments();
        CHECK.by("1: A new object");
        objectsDoNotShareTheirState();
        CHECK.by("Rule 7: No call may ever throw by itself");
        for (int seed = 0; seed < 400; seed++) {
            noCallThrows(new Random(seed));
        }
        CHECK.end();
    }

    private static void faceIsTheDocuments() {
        Set<String> due = new TreeSet<>(Set.of("boolean unit 1", "int broken 1", "int line 1",
            "int rest 0", "void clear 0", "int box 1", "int pages 2", "int put 4"));
        due.addAll(Set.of("boolean grid 2", "boolean cage 2", "int lines 0", "int drawn 2",
            "boolean code 1", "int rows 0", "boolean dark 2", "boolean spoil 2", "int read 0"));
        due.addAll(Set.of("int byteAt 1", "void wipe 0"));
        Set<String> got = new TreeSet<>();
        for (Method method : PageForms.class.getDeclaredMethods()) {
            if (!Modifier.isPrivate(method.getModifiers())) {
                CHECK.due(method + " is public", Modifier.isPublic(method.getModifiers()), true);
                got.add(method.getReturnType() + " " + method.getName() + " "
                    + method.getParameterCount());
            }
        }
        CHECK.due("the methods " + got, got.equals(due), true);
        for (Field field : PageForms.class.getDeclaredFields()) {
            CHECK.due(field + " is private", Modifier.isPrivate(field.getModifiers()), true);
        }
        Constructor<?>[] constructors = PageForms.class.getDeclaredConstructors();
        CHECK.due("one constructor", constructors.length, 1);
        CHECK.due("without parameters", constructors[0].getParameterCount(), 0);
        CHECK.due("final", Modifier.isFinal(PageForms.class.getModifiers()), true);
    }

    private static void objectsDoNotShareTheirState() {
        PageForms one = new PageForms();
        PageForms other = new PageForms();
        one.unit(97);
        one.broken(3);
        one.box(4);
        one.grid(3, 3);
        one.code(9);
        CHECK.due("rest of the other", other.rest(), 0);
        CHECK.due("broken of the other", other.broken(3), 0);
        CHECK.due("pages of the other", other.pages(4, 0), 0);
        CHECK.due("lines of the other", other.lines(), 4);
        CHECK.due("rows of the other", other.rows(), 0);
    }

    private static void noCallThrows(Random random) throws ReflectiveOperationException {
        PageForms forms = new PageForms();
        Method[] methods = PageForms.class.getMethods();
        java.util.Arrays.sort(methods, java.util.Comparator.comparing(Method::toString));
        boolean rarelyEmpties = random.nextBoolean();
        // More than the 512 calls of the document: later answers are free, but throwing is not.
        for (int call = 0; call < 2000; call++) {
            Method method = methods[random.nextInt(methods.length)];
            boolean empties = method.getReturnType() == void.class;
            if (method.getDeclaringClass() != PageForms.class
                || empties && rarelyEmpties && random.nextInt(50) != 0) {
                continue;
            }
            Object[] values = new Object[method.getParameterCount()];
            for (int i = 0; i < values.length; i++) {
                values[i] = random.nextBoolean() ? VALUES[random.nextInt(VALUES.length)]
                    : random.nextInt(128);
            }
            CHECK.due(method.getName() + java.util.Arrays.toString(values) + " throws",
                isThrown(forms, method, values), false);
        }
    }

    private static boolean isThrown(PageForms forms, Method method, Object[] values)
        throws ReflectiveOperationException {
        try {
            method.invoke(forms, values);
            return false;
        } catch (java.lang.reflect.InvocationTargetException thrown) {
            System.out.println(thrown.getCause());
            return true;
        }
    }
}
