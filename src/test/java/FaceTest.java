import java.io.IOException;
import java.lang.reflect.Constructor;
import java.lang.reflect.Field;
import java.lang.reflect.Method;
import java.lang.reflect.Modifier;
import java.nio.file.Files;
import java.nio.file.Path;
import java.util.Arrays;
import java.util.Set;
import java.util.TreeSet;

/** The public face, and those rules of LANGUAGE.md that the text or the shape of the class shows. */
public final class FaceTest {
    private static final Check CHECK = new Check();

    private static final String[] FACE = {
        "int setLength(int) throws IllegalArgumentException",
        "int setLimit(int,int,int) throws IllegalArgumentException",
        "int setGradient(int,int,int) throws IllegalArgumentException",
        "int setBarred(int,int,boolean) throws IllegalArgumentException",
        "boolean setRequired(int,boolean) throws IllegalArgumentException",
        "int setTrain(int,int,int) throws IllegalArgumentException",
        "int setRules(int,int,int) throws IllegalArgumentException",
        "int setSight(int,int) throws IllegalArgumentException",
        "int limit(int) throws IndexOutOfBoundsException",
        "int gradient(int) throws IndexOutOfBoundsException",
        "boolean isBarred(int) throws IndexOutOfBoundsException",
        "long energy(int) throws IndexOutOfBoundsException",
        "int profileSpeed(int) throws IndexOutOfBoundsException",
        "int brakingDistance(int) throws IndexOutOfBoundsException",
        "int travelTime(int,int) throws IllegalArgumentException",
        "int addPost(int) throws IllegalArgumentException, IllegalStateException",
        "int removePost(int) throws IllegalArgumentException, IllegalStateException",
        "int clearPosts()", "int posts()",
        "int post(int) throws IndexOutOfBoundsException",
        "int violationCount()",
        "int violation(int) throws IndexOutOfBoundsException",
        "int fewestPosts()",
        "int design() throws IllegalStateException",
        "int blockTime(int) throws IndexOutOfBoundsException",
        "int headway()",
        "int capacity() throws IllegalStateException",
        "int undo() throws IllegalStateException",
        "long digest()"};

    private static final String[] FORBIDDEN = {
        "import ", "package ", "->", "::", "finally", "synchronized", "assert ", "try ", "catch ", "protected ",
        "double", "float", "Exact(", "System.", "Thread", "@"};

    public static void main(String[] args) throws IOException {
        constants();
        constructors();
        methods();
        fields();
        nestedClasses();
        text(Path.of("src/main/java/SignalSpacing.java"));
        CHECK.end();
    }

    private static void constants() {
        CHECK.due("NONE", SignalSpacing.NONE, -1);
        CHECK.due("BARRED", SignalSpacing.BARRED, 1);
        CHECK.due("MISSING", SignalSpacing.MISSING, 2);
        CHECK.due("SHORT", SignalSpacing.SHORT, 3);
        CHECK.due("LONG", SignalSpacing.LONG, 4);
        CHECK.due("BRAKING", SignalSpacing.BRAKING, 5);
    }

    private static void constructors() {
        Constructor<?>[] all = SignalSpacing.class.getDeclaredConstructors();
        CHECK.due("number of constructors", all.length, 1);
        CHECK.due("the constructor is public", Modifier.isPublic(all[0].getModifiers()), true);
        CHECK.due("its parameters", all[0].getParameterCount(), 0);
        CHECK.due("the class is public and final", SignalSpacing.class.getModifiers(), Modifier.PUBLIC | Modifier.FINAL);
    }

    private static void methods() {
        Set<String> found = new TreeSet<>();
        Set<String> publicNames = new TreeSet<>();
        for (Method method : SignalSpacing.class.getDeclaredMethods()) {
            if (Modifier.isPublic(method.getModifiers())) {
                found.add(signature(method));
                publicNames.add(method.getName());
            }
        }
        CHECK.told("the public methods", found, new TreeSet<>(Arrays.asList(FACE)));
        for (Method method : SignalSpacing.class.getDeclaredMethods()) {
            if (!Modifier.isPublic(method.getModifiers())) {
                CHECK.due(method + " is private", Modifier.isPrivate(method.getModifiers()), true);
                CHECK.due(method + " has a name of its own", publicNames.contains(method.getName()), false);
            }
        }
        for (Class<?> nested : SignalSpacing.class.getDeclaredClasses()) {
            for (Method method : nested.getDeclaredMethods()) {
                CHECK.due(method + " has a name of its own", publicNames.contains(method.getName()), false);
                CHECK.due(method + " takes at most seven", method.getParameterCount() <= 7, true);
            }
        }
    }

    private static String signature(Method method) {
        StringBuilder text = new StringBuilder(method.getReturnType() + " " + method.getName() + "(");
        for (int i = 0; i < method.getParameterCount(); i++) {
            text.append(i == 0 ? "" : ",").append(method.getParameterTypes()[i]);
        }
        text.append(")");
        for (int i = 0; i < method.getExceptionTypes().length; i++) {
            text.append(i == 0 ? " throws " : ", ").append(method.getExceptionTypes()[i].getSimpleName());
        }
        return text.toString();
    }

    private static void fields() {
        int open = 0;
        for (Field field : SignalSpacing.class.getDeclaredFields()) {
            int modifiers = field.getModifiers();
            if (Modifier.isPublic(modifiers)) {
                CHECK.due(field + " is an int constant", isConstant(field), true);
                open++;
            } else {
                CHECK.due(field + " is private", Modifier.isPrivate(modifiers), true);
            }
        }
        CHECK.due("number of public constants", open, 6);
    }

    private static boolean isConstant(Field field) {
        int due = Modifier.PUBLIC | Modifier.STATIC | Modifier.FINAL;
        return field.getModifiers() == due && field.getType() == int.class;
    }

    private static void nestedClasses() {
        Class<?>[] all = SignalSpacing.class.getDeclaredClasses();
        CHECK.due("at most twelve classes", all.length < 12, true);
        for (Class<?> nested : all) {
            int modifiers = nested.getModifiers();
            CHECK.due(nested + " is static", Modifier.isStatic(modifiers), true);
            CHECK.due(nested + " is not public", Modifier.isPublic(modifiers) || Modifier.isProtected(modifiers), false);
            for (Field field : nested.getDeclaredFields()) {
                boolean kept = Modifier.isStatic(field.getModifiers()) && !Modifier.isFinal(field.getModifiers());
                CHECK.due(field + " is no static state", kept, false);
            }
        }
    }

    private static void text(Path file) throws IOException {
        String source = Files.readString(file);
        for (String word : FORBIDDEN) {
            CHECK.due("the source holds '" + word + "'", source.contains(word), false);
        }
        for (int i = 0; i < source.length(); i++) {
            if (source.charAt(i) > 126) {
                CHECK.report("the source holds a sign over 126 at " + i);
            }
        }
    }
}
