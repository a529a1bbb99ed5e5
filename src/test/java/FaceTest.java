import java.io.IOException;
import java.lang.reflect.Constructor;
import java.lang.reflect.Field;
import java.lang.reflect.InvocationTargetException;
import java.lang.reflect.Method;
import java.lang.reflect.Modifier;
import java.nio.file.Files;
import java.nio.file.Path;
import java.util.NoSuchElementException;
import java.util.TreeSet;

/** The public face as the document prints it, and calls with numbers of all sizes. */
final class FaceTest {
    private static final String[] FACE = {
        "int sign(int)", "boolean end(int)", "int rule()", "int drop(int)", "int later(int, boolean)",
        "int put(int, int, int, int, int)", "int set(int, int, int, int)", "int cut(int, int)", "int rekey(int, int, int)",
        "int begin()", "int commit()", "int abort()", "int mark()", "int back(int)",
        "int value(int, int, int) throws NoSuchElementException", "int rows(int, int)", "int told(int, int)",
        "int queue(int, int) throws NoSuchElementException", "int group(int, int)", "int asked(int, int)",
        "int fresh(int, int)", "int question(int, int, int)", "int first(int)", "int all(int)", "int verdict(int)",
        "int letter(int)", "int wouldSet(int, int, int, int)", "int wouldCut(int, int, int)", "int leans(int, int, int)",
        "int least(int, int, int)", "int depth(int, int)", "int since(int)", "int count(int)"};
    private static final String[] RULES = {
        "unique 0 0 late", "refers 0 1 1 cascade late", "range 0 2 -50 50 late", "sum 1 0 1 -50 50 late", "count 0 1 1 0 3 late",
        "tree 2 0 late", "refers 2 0 2 clear late", "unique 1 1", "refers 1 2 0 clear late rank 3"};
    private static final int[] SIZES = {Integer.MIN_VALUE, -2000, -1001, -1000, -100, -99, -2, -1, 0, 1, 2, 3, 4, 5, 7, 8, 9, 11, 12,
        29, 30, 31, 99, 100, 1000, Integer.MAX_VALUE};

    public static void main(String[] args) throws IOException {
        face();
        asPrinted(Files.readString(Path.of(args.length > 0 ? args[0] : ".", "../shared/DOC.md")));
        numbersOfAllSizes();
        Due.finish("FaceTest");
    }

    private static String headOf(Method method) {
        StringBuilder head = new StringBuilder(method.getReturnType().getSimpleName()).append(' ').append(method.getName()).append('(');
        for (int i = 0; i < method.getParameterCount(); i++) {
            head.append(i == 0 ? "" : ", ").append(method.getParameterTypes()[i].getSimpleName());
        }
        head.append(')');
        for (Class<?> thrown : method.getExceptionTypes()) {
            head.append(" throws ").append(thrown.getSimpleName());
        }
        return head.toString();
    }

    private static void face() {
        TreeSet<String> due = new TreeSet<>(java.util.Arrays.asList(FACE));
        TreeSet<String> names = new TreeSet<>();
        TreeSet<String> there = new TreeSet<>();
        for (Method method : LateRules.class.getDeclaredMethods()) {
            if (Modifier.isPublic(method.getModifiers())) {
                there.add(headOf(method));
                names.add(method.getName());
                Due.is(method.getName() + " is not static", Modifier.isStatic(method.getModifiers()), false);
            }
        }
        Due.is("the face", there.toString(), due.toString());
        for (Method method : LateRules.class.getDeclaredMethods()) {
            if (!Modifier.isPublic(method.getModifiers()) && !method.isSynthetic()) {
                Due.is(method.getName() + " is private", Modifier.isPrivate(method.getModifiers()), true);
                Due.is(method.getName() + " bears a name of the face", names.contains(method.getName()), false);
            }
        }
        for (Field field : LateRules.class.getDeclaredFields()) {
            boolean constant = field.getName().equals("NONE");
            Due.is(field.getName() + " is public", Modifier.isPublic(field.getModifiers()), constant);
            Due.is(field.getName() + " is private", Modifier.isPrivate(field.getModifiers()), !constant);
        }
        for (Constructor<?> constructor : LateRules.class.getDeclaredConstructors()) {
            Due.is("the constructor takes nothing", constructor.getParameterCount(), 0);
            Due.is("the constructor is public", Modifier.isPublic(constructor.getModifiers()), true);
        }
        Due.is("the class is public and final", Modifier.isPublic(LateRules.class.getModifiers())
            && Modifier.isFinal(LateRules.class.getModifiers()), true);
        for (Class<?> inside : LateRules.class.getDeclaredClasses()) {
            Due.is(inside.getName() + " is static", Modifier.isStatic(inside.getModifiers()), true);
            Due.is(inside.getName() + " is public", Modifier.isPublic(inside.getModifiers()), false);
            for (Method method : inside.getDeclaredMethods()) {
                Due.is(method.getName() + " inside bears a name of the face", names.contains(method.getName()), false);
            }
        }
    }

    /** The heads above against the document's own print of them. */
    private static void asPrinted(String document) {
        String block = document.substring(document.indexOf("public final class LateRules {"));
        TreeSet<String> printed = new TreeSet<>();
        for (String line : block.substring(0, block.indexOf("```")).split("\n")) {
            String head = line.trim().replaceAll("(int|boolean) \\w+(?=[,)])", "$1");
            if (head.matches("public (int|boolean) \\w+\\(.*;")) {
                printed.add(head.substring("public ".length(), head.length() - 1));
            }
        }
        Due.is("the face as the document prints it", printed.toString(), new TreeSet<>(java.util.Arrays.asList(FACE)).toString());
        Due.is("NONE as it prints it", block.contains("public static final int NONE = " + LateRules.NONE + ";"), true);
    }

    private static Object[] argumentsFor(Method method, long[] seed) {
        Object[] arguments = new Object[method.getParameterCount()];
        for (int i = 0; i < arguments.length; i++) {
            seed[0] = seed[0] * 6364136223846793005L + 1442695040888963407L;
            int number = (int) (seed[0] >>> 33);
            boolean small = number % 5 < 3;
            int size = small ? number / 5 % 4 : SIZES[number / 5 % SIZES.length];
            arguments[i] = method.getParameterTypes()[i] == boolean.class ? (Object) (size % 2 == 0) : (Object) size;
        }
        return arguments;
    }

    private static void numbersOfAllSizes() {
        Method[] methods = LateRules.class.getDeclaredMethods();
        java.util.Arrays.sort(methods, (a, b) -> headOf(a).compareTo(headOf(b)));
        long[] seed = {77};
        for (int run = 0; run < 200; run++) {
            LateRules x = Due.with(RULES);
            for (int i = 0; i < 400; i++) {
                seed[0] = seed[0] * 6364136223846793005L + 1442695040888963407L;
                Method method = methods[(int) ((seed[0] >>> 33) % methods.length)];
                if (!Modifier.isPublic(method.getModifiers()) || method.isSynthetic()) {
                    continue;
                }
                Due.is(method.getName() + " throws what it may", endsWell(x, method, argumentsFor(method, seed)), true);
            }
        }
    }

    private static boolean endsWell(LateRules x, Method method, Object[] arguments) {
        try {
            method.invoke(x, arguments);
            return true;
        } catch (InvocationTargetException e) {
            boolean may = method.getName().equals("value") || method.getName().equals("queue");
            return may && e.getCause().getClass() == NoSuchElementException.class;
        } catch (IllegalAccessException e) {
            return false;
        }
    }
}
