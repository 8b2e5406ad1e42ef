import java.io.IOException;
import java.lang.reflect.Field;
import java.lang.reflect.InvocationTargetException;
import java.lang.reflect.Method;
import java.lang.reflect.Modifier;
import java.nio.file.Files;
import java.nio.file.Path;
import java.util.ArrayList;
import java.util.HashMap;
import java.util.List;
import java.util.Map;
import java.util.Set;
import java.util.TreeMap;
import java.util.TreeSet;
import java.util.regex.Matcher;
import java.util.regex.Pattern;

/** What README.md tells of the class: the calls that it shows with their answers, and its tables. */
public final class ReadmeTest extends Bench {
    private static final Pattern MADE = Pattern.compile("SignalSpacing (\\w+) = new SignalSpacing\\(\\);");
    private static final Pattern SHOWN = Pattern.compile(
        "(\\w+)\\.(\\w+)\\(([^()]*)\\); +// (throws \\w+|NONE|true|false|-?\\d+)(?:: .+)?");
    private static final Pattern ROW = Pattern.compile(
        "\\| `(\\w+)\\(([^()]*)\\)` \\| (yes|no) \\| .+ \\|((?: `\\w+`,?)*) \\|");
    private static final Pattern CONSTANT = Pattern.compile("\\| `([A-Z]+)` \\| (-?\\d+) \\| .+ \\|");
    private static final Pattern EXCEPTION = Pattern.compile("\\w+Exception");

    /** A call of each method that the layout of posts at 0, 1 and 60 does not refuse. */
    private static final String[] SAMPLES = {
        "setLength(10)", "setLimit(0, 0, 20)", "setGradient(0, 0, 1)", "setBarred(0, 0, true)", "setRequired(5, true)",
        "setTrain(100, 0, 1)", "setRules(2, 1, 1)", "setSight(0, 0)", "limit(0)", "gradient(0)", "isBarred(0)",
        "energy(0)", "profileSpeed(0)", "brakingDistance(0)", "travelTime(0, 1)", "addPost(30)", "removePost(1)",
        "clearPosts()", "posts()", "post(0)", "violationCount()", "violation(0)", "fewestPosts()", "design()",
        "blockTime(0)", "headway()", "capacity()", "undo()", "digest()"};

    private static final Map<String, Method> FACE = face();

    public static void main(String[] args) throws IOException {
        List<String> page = Files.readAllLines(Path.of("README.md"));
        calls(page);
        tables(page);
        constants(page);
        CHECK.end();
    }

    private static Map<String, Method> face() {
        Map<String, Method> face = new TreeMap<>();
        for (Method method : SignalSpacing.class.getDeclaredMethods()) {
            if (Modifier.isPublic(method.getModifiers())) {
                face.put(method.getName(), method);
            }
        }
        return face;
    }

    // ---- the calls that the page shows

    /** Each line of each block of Java is run; each block stands alone. */
    private static void calls(List<String> page) {
        Map<String, SignalSpacing> objects = new HashMap<>();
        Set<String> shown = new TreeSet<>();
        boolean isJava = false;
        for (int number = 1; number <= page.size(); number++) {
            String line = page.get(number - 1);
            if (line.startsWith("```")) {
                isJava = line.equals("```java");
                objects.clear();
            } else if (isJava && !line.isBlank()) {
                runLine("README.md, line " + number + ": " + line, line, objects, shown);
            }
        }
        CHECK.due("the last block of README.md is closed", isJava, false);
        CHECK.told("the calls that README.md shows", shown, FACE.keySet());
    }

    private static void runLine(String where, String line, Map<String, SignalSpacing> objects, Set<String> shown) {
        Matcher made = MADE.matcher(line);
        Matcher call = SHOWN.matcher(line);
        if (made.matches()) {
            objects.put(made.group(1), new SignalSpacing());
        } else if (call.matches() && objects.containsKey(call.group(1))) {
            SignalSpacing x = objects.get(call.group(1));
            long before = x.digest();
            CHECK.told(where, answered(x, call.group(2), call.group(3)), dueOf(call.group(4)));
            if (call.group(4).startsWith("throws ")) {
                CHECK.due(where + " changes nothing", x.digest(), before);
            }
            shown.add(call.group(2));
        } else {
            CHECK.report(where + " is no call of an object of its block with an answer behind it");
        }
    }

    private static String dueOf(String written) {
        return written.equals("NONE") ? Integer.toString(NONE) : written.replace("throws ", "throws java.lang.");
    }

    private static String answered(SignalSpacing x, String name, String written) {
        Method method = FACE.get(name);
        if (method == null) {
            return "no such method";
        }
        try {
            return String.valueOf(method.invoke(x, arguments(written)));
        } catch (InvocationTargetException e) {
            return "throws " + e.getCause().getClass().getName();
        } catch (IllegalAccessException | IllegalArgumentException e) {
            return "not its arguments: " + e;
        }
    }

    private static Object[] arguments(String written) {
        List<Object> values = new ArrayList<>();
        for (String text : written.isEmpty() ? new String[0] : written.split(", ")) {
            boolean isTruth = text.equals("true") || text.equals("false");
            values.add(isTruth ? (Object) Boolean.valueOf(text) : (Object) Integer.valueOf(text));
        }
        return values.toArray();
    }

    // ---- the tables of the calls

    private static void tables(List<String> page) {
        Set<String> undoable = undoableOnes();
        Set<String> told = new TreeSet<>();
        for (String line : page) {
            Matcher row = ROW.matcher(line);
            if (row.matches()) {
                String name = row.group(1);
                CHECK.due("README.md tells " + name + " once", told.add(name), true);
                CHECK.due("README.md: " + name + " is undoable", row.group(3).equals("yes"), undoable.contains(name));
                refusals(name, row.group(2), row.group(4));
            } else {
                CHECK.due("a row that tells no call as the others do: " + line, line.matches("\\| `\\w+\\(.*"), false);
            }
        }
        CHECK.told("the calls in the tables of README.md", told, FACE.keySet());
    }

    private static void refusals(String name, String parameters, String written) {
        Method method = FACE.get(name);
        if (method == null) {
            CHECK.report("README.md tells of " + name + ", which is no call");
            return;
        }
        List<String> found = new ArrayList<>();
        Matcher exception = EXCEPTION.matcher(written);
        while (exception.find()) {
            found.add(exception.group());
        }
        List<String> due = new ArrayList<>();
        for (Class<?> type : method.getExceptionTypes()) {
            due.add(type.getSimpleName());
        }
        CHECK.told("README.md: what refuses " + name, found, due);
        int count = parameters.isEmpty() ? 0 : parameters.split(", ").length;
        CHECK.due("README.md: the arguments of " + name, count, method.getParameterCount());
    }

    private static Set<String> undoableOnes() {
        Set<String> tried = new TreeSet<>();
        Set<String> undoable = new TreeSet<>();
        for (String sample : SAMPLES) {
            String name = sample.substring(0, sample.indexOf('('));
            SignalSpacing x = new SignalSpacing();
            add(x, 0, 1, 60);
            String got = answered(x, name, sample.substring(name.length() + 1, sample.length() - 1));
            CHECK.due(sample + " answered " + got, got.matches("-?\\d+|true|false"), true);
            tried.add(name);
            // Three states were saved before: a call that is undoable saves a fourth one.
            if (trail(x).size() - 1 == 4) {
                undoable.add(name);
            }
        }
        CHECK.told("the samples", tried, FACE.keySet());
        return undoable;
    }

    // ---- the constants

    private static void constants(List<String> page) {
        Map<String, String> told = new TreeMap<>();
        for (String line : page) {
            Matcher row = CONSTANT.matcher(line);
            if (row.matches()) {
                told.put(row.group(1), row.group(2));
            }
        }
        Map<String, String> due = new TreeMap<>();
        for (Field field : SignalSpacing.class.getDeclaredFields()) {
            if (Modifier.isPublic(field.getModifiers()) && !field.getName().equals("NONE")) {
                due.put(field.getName(), answerOf(field));
            }
        }
        CHECK.told("the kinds of violations in README.md", told, due);
        String none = "`NONE` is " + NONE + " and stands for \"there is no such value\":";
        CHECK.due("README.md tells what NONE is", page.contains(none), true);
    }

    private static String answerOf(Field field) {
        try {
            return String.valueOf(field.get(null));
        } catch (IllegalAccessException e) {
            return "not open";
        }
    }
}
