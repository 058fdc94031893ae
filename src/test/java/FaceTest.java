import java.lang.reflect.Constructor;
import java.lang.reflect.Field;
import java.lang.reflect.Method;
import java.lang.reflect.Modifier;
import java.util.ArrayList;
import java.util.List;
import java.util.Random;
import java.util.Set;
import java.util.StringJoiner;
import java.util.TreeSet;

/** The document's public face, and that no call ever throws, whatever it is given. */
public final class FaceTest {
    private static final Check CHECK = new Check("FaceTest");
    private static final int[] VALUES = {Integer.MIN_VALUE, Integer.MIN_VALUE + 1, -1000, -1, 0, 1,
        2, 3, 4, 5, 7, 8, 9, 12, 13, 31, 32, 59, 60, 63, 64, 97, 99, 100, 101, 126, 127, 199, 200,
        255, 256, 999, 1000, 1001, 65536, Integer.MAX_VALUE - 1, Integer.MAX_VALUE};

    public static void main(String[] args) throws ReflectiveOperationException {
        CHECK.by("The public face");
        faceIsTheDocuments();
        CHECK.by("Rule 1: no other public, protected or package-visible member");
        nothingElseIsSeen();
        CHECK.by("Rule 5: Static fields are final; no other static state");
        noStaticStateIsKept();
        CHECK.by("1: A new object");
        objectsDoNotShareTheirState();
        CHECK.by("Rule 7: No call may ever throw by itself");
        for (int seed = 0; seed < 400; seed++) {
            noCallThrows(new Random(seed));
        }
        CHECK.end();
    }

    private static void faceIsTheDocuments() {
        Set<String> due = new TreeSet<>(Set.of("boolean unit(int)", "int broken(int)",
            "int line(int)", "int rest()", "void clear()", "int box(int)", "int pages(int, int)",
            "int put(int, int, int, int)", "boolean grid(int, int)", "boolean cage(int, int)"));
        due.addAll(Set.of("int lines()", "int drawn(int, int)", "boolean code(int)", "int rows()",
            "boolean dark(int, int)", "boolean spoil(int, int)", "int read()", "int byteAt(int)",
            "void wipe()"));
        Set<String> got = new TreeSet<>();
        for (Method method : PageForms.class.getDeclaredMethods()) {
            if (!Modifier.isPrivate(method.getModifiers())) {
                CHECK.due(method + " is public and no more", method.getModifiers(), Modifier.PUBLIC);
                CHECK.due(method + " declares to throw", method.getExceptionTypes().length, 0);
                got.add(signatureOf(method));
            }
        }
        CHECK.due("the methods", got.toString(), due.toString());
        Constructor<?>[] constructors = PageForms.class.getDeclaredConstructors();
        CHECK.due("one constructor", constructors.length, 1);
        CHECK.due("without parameters", constructors[0].getParameterCount(), 0);
        CHECK.due("public", constructors[0].getModifiers(), Modifier.PUBLIC);
        CHECK.due("public and final", PageForms.class.getModifiers(),
            Modifier.PUBLIC | Modifier.FINAL);
        CHECK.due("without a package", PageForms.class.getPackageName(), "");
    }

    private static String signatureOf(Method method) {
        StringJoiner types = new StringJoiner(", ", "(", ")");
        for (Class<?> type : method.getParameterTypes()) {
            types.add(type.getName());
        }
        return method.getReturnType() + " " + method.getName() + types;
    }

    private static void nothingElseIsSeen() {
        Set<String> publicNames = new TreeSet<>();
        for (Method method : PageForms.class.getMethods()) {
            publicNames.add(method.getName());
        }
        List<Class<?>> all = new ArrayList<>(List.of(PageForms.class.getDeclaredClasses()));
        for (Class<?> inside : all) {
            CHECK.due(inside + " is static", Modifier.isStatic(inside.getModifiers()), true);
            CHECK.due(inside + " is seen from outside",
                Modifier.isPublic(inside.getModifiers())
                    || Modifier.isProtected(inside.getModifiers()), false);
        }
        all.add(PageForms.class);
        for (Class<?> each : all) {
            for (Field field : each.getDeclaredFields()) {
                CHECK.due(field + " is private", Modifier.isPrivate(field.getModifiers()), true);
            }
            for (Method method : each.getDeclaredMethods()) {
                boolean hidden = Modifier.isPrivate(method.getModifiers());
                CHECK.due(method + " is private and bears a public one's name",
                    hidden && publicNames.contains(method.getName()), false);
            }
        }
    }

    private static void noStaticStateIsKept() {
        List<Class<?>> all = new ArrayList<>(List.of(PageForms.class.getDeclaredClasses()));
        all.add(PageForms.class);
        for (Class<?> each : all) {
            for (Field field : each.getDeclaredFields()) {
                if (Modifier.isStatic(field.getModifiers())) {
                    CHECK.due(field + " is final", Modifier.isFinal(field.getModifiers()), true);
                    CHECK.due(field + " is a number", field.getType().isPrimitive(), true);
                }
            }
        }
    }

    private static void objectsDoNotShareTheirState() {
        PageForms one = new PageForms();
        PageForms other = new PageForms();
        one.unit(97);
        one.broken(3);
        one.box(4);
        one.grid(3, 3);
        one.code(9);
        CHECK.due("rest of the other", other.rest(), 0);
        CHECK.due("broken of the other", other.broken(3), 0);
        CHECK.due("pages of the other", other.pages(4, 0), 0);
        CHECK.due("lines of the other", other.lines(), 4);
        CHECK.due("rows of the other", other.rows(), 0);
    }

    private static void noCallThrows(Random random) throws ReflectiveOperationException {
        PageForms forms = new PageForms();
        Method[] methods = PageForms.class.getMethods();
        java.util.Arrays.sort(methods, java.util.Comparator.comparing(Method::toString));
        boolean rarelyEmpties = random.nextBoolean();
        // More than the 512 calls of the document: later answers are free, but throwing is not.
        for (int call = 0; call < 2000; call++) {
            Method method = methods[random.nextInt(methods.length)];
            boolean empties = method.getReturnType() == void.class;
            if (method.getDeclaringClass() != PageForms.class
                || empties && rarelyEmpties && random.nextInt(50) != 0) {
                continue;
            }
            Object[] values = new Object[method.getParameterCount()];
            for (int i = 0; i < values.length; i++) {
                values[i] = random.nextBoolean() ? VALUES[random.nextInt(VALUES.length)]
                    : random.nextInt(128);
            }
            CHECK.due(method.getName() + java.util.Arrays.toString(values) + " throws",
                isThrown(forms, method, values), false);
        }
    }

    private static boolean isThrown(PageForms forms, Method method, Object[] values)
        throws ReflectiveOperationException {
        try {
            method.invoke(forms, values);
            return false;
        } catch (java.lang.reflect.InvocationTargetException thrown) {
            System.out.println(thrown.getCause());
            return true;
        }
    }
}
