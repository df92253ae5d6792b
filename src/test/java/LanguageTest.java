import java.io.IOException;
import java.lang.reflect.Constructor;
import java.lang.reflect.Field;
import java.lang.reflect.Method;
import java.lang.reflect.Modifier;
import java.nio.file.Files;
import java.nio.file.Path;
import java.util.Arrays;
import java.util.List;
import java.util.Set;
import java.util.TreeSet;
import java.util.regex.Pattern;

/** The face of the class, and what can be looked up of the rules of LANGUAGE.md. */
public final class LanguageTest {
    /** The names of the public methods, and how many numbers each of them takes: int, but for put's long. */
    private static final List<String> METHODS = List.of("loco/4", "lift/1", "noise/1", "order/3", "frame/3", "shorts/2",
        "pass/1", "of/2", "address/1", "waiting/2", "block/2", "count/1", "reaches/2", "settles/1", "meets/2",
        "stepFor/2", "put/1", "wipe/0", "fault/0", "carryOut/0", "undo/0", "save/1", "restore/1");
    private static final List<String> CONSTANTS = List.of("NO_SUCH", "BAD_VALUE", "BAD_TEXT", "TOO_MANY",
        "NOT_POSSIBLE", "NONE", "EVEN", "SLOW", "FAST");
    private static final int[] VALUES = {-1, -2, -3, -4, -5, -6, 0, 1, 2};
    private static final List<String> FORBIDDEN = List.of("throw", "try", "catch", "synchronized", "assert", "import",
        "package", "volatile", "native", "Exception", "->", "::", "Exact", "System\\.out", "hashCode", "equals",
        "HashMap", "Random", "nanoTime", "currentTimeMillis");

    public static void main(String[] args) throws IOException, ReflectiveOperationException {
        face();
        constants();
        classesInside();
        source(Files.readString(Path.of("src/main/java/LocoFrames.java")));
        Due.end();
    }

    private static void face() {
        Set<String> found = new TreeSet<>();
        Set<String> names = new TreeSet<>();
        for (Method method : LocoFrames.class.getDeclaredMethods()) {
            if (Modifier.isPublic(method.getModifiers())) {
                found.add(method.getName() + "/" + method.getParameterCount());
                names.add(method.getName());
                Due.same("what " + method + " returns", method.getReturnType().getName(), "int");
                for (Class<?> taken : method.getParameterTypes()) {
                    Due.same("what " + method + " takes", taken.getName(), method.getName().equals("put") ? "long" : "int");
                }
                Due.is("static: " + method, Modifier.isStatic(method.getModifiers()) ? 1 : 0, 0);
            } else {
                Due.is("private: " + method, Modifier.isPrivate(method.getModifiers()) ? 1 : 0, 1);
            }
            Due.is("seven parameters at most: " + method, method.getParameterCount() <= 7 ? 1 : 0, 1);
        }
        Due.same("the public methods", found.toString(), new TreeSet<>(METHODS).toString());
        for (Method method : LocoFrames.class.getDeclaredMethods()) {
            boolean hidden = Modifier.isPrivate(method.getModifiers()) && names.contains(method.getName());
            Due.is("a private one with a public one's name: " + method, hidden ? 1 : 0, 0);
        }
        Constructor<?>[] constructors = LocoFrames.class.getDeclaredConstructors();
        Due.is("constructors", constructors.length, 1);
        Due.is("its parameters", constructors[0].getParameterCount(), 0);
        Due.is("it is public", constructors[0].getModifiers(), Modifier.PUBLIC);
        Due.is("a public final class", LocoFrames.class.getModifiers(), Modifier.PUBLIC | Modifier.FINAL);
        Due.same("what it extends", LocoFrames.class.getSuperclass().getName(), "java.lang.Object");
        Due.is("what it implements", LocoFrames.class.getInterfaces().length, 0);
    }

    private static void constants() throws ReflectiveOperationException {
        int how = Modifier.PUBLIC | Modifier.STATIC | Modifier.FINAL;
        for (int i = 0; i < VALUES.length; i++) {
            Field constant = LocoFrames.class.getField(CONSTANTS.get(i));
            Due.is(CONSTANTS.get(i), constant.getInt(null), VALUES[i]);
            Due.same("the type of " + constant, constant.getType().getName(), "int");
            Due.is("public static final: " + constant, constant.getModifiers(), how);
        }
        for (Field field : LocoFrames.class.getDeclaredFields()) {
            boolean open = !Modifier.isPrivate(field.getModifiers());
            Due.is("known: " + field, !open || CONSTANTS.contains(field.getName()) ? 1 : 0, 1);
        }
    }

    private static void classesInside() {
        Class<?>[] inside = LocoFrames.class.getDeclaredClasses();
        Due.is("twelve classes at most", inside.length < 12 ? 1 : 0, 1);
        for (Class<?> one : inside) {
            Due.is("static: " + one, Modifier.isStatic(one.getModifiers()) ? 1 : 0, 1);
            Due.is("not open: " + one, one.getModifiers() & (Modifier.PUBLIC | Modifier.PROTECTED), 0);
            long fields = Arrays.stream(one.getDeclaredFields()).filter(f -> !Modifier.isStatic(f.getModifiers())).count();
            Due.is("twenty fields at most: " + one, fields <= 20 ? 1 : 0, 1);
            for (Field field : one.getDeclaredFields()) {
                int how = field.getModifiers();
                Due.is("no static state: " + field, Modifier.isStatic(how) && !Modifier.isFinal(how) ? 1 : 0, 0);
            }
            for (Method method : one.getDeclaredMethods()) {
                boolean named = METHODS.stream().anyMatch(m -> m.startsWith(method.getName() + "/"));
                Due.is("named like a public one: " + method, named ? 1 : 0, 0);
            }
        }
    }

    private static void source(String text) {
        String code = text.replaceAll("(?s)/\\*.*?\\*/", "").replaceAll("//[^\n]*", "");
        for (String word : FORBIDDEN) {
            String whole = word.matches("\\w+") && !word.equals("Exact") && !word.equals("Exception")
                    ? "\\b" + word + "\\b" : word;
            Due.is("stands in the source: " + word, Pattern.compile(whole).matcher(code).find() ? 1 : 0, 0);
        }
        Due.is("only signs 1 to 127", text.chars().allMatch(c -> c > 0 && c < 128) ? 1 : 0, 1);
    }
}
