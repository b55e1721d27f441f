import java.lang.reflect.Constructor;
import java.lang.reflect.Field;
import java.lang.reflect.Method;
import java.lang.reflect.Modifier;
import java.nio.file.Files;
import java.nio.file.Path;
import java.util.ArrayList;
import java.util.List;
import java.util.Set;
import java.util.regex.Matcher;
import java.util.regex.Pattern;

/**
 * The rules of ../shared/LANGUAGE.md, as far as they can be seen in the file and in its classes;
 * FaceTest sees to rule 1. Where the program uses less than a rule leaves, the test holds it to
 * that: the document names no exception, so there is no throw and no catch.
 */
public final class LanguageTest {
    private static final Path PROGRAM = Path.of("src", "main", "java", "BarrelProcessor.java");
    private static final int MOST_CLASSES = 12;
    private static final int MOST_FIELDS = 20;
    private static final int MOST_PARAMETERS = 7;
    private static final int MOST_LINES = 60;
    private static final Set<String> CONSTANT_TYPES = Set.of("int", "long", "boolean", "char",
        "String", "int[]", "long[]", "char[]", "byte[]");
    private static final Set<String> TYPES = Set.of("int", "long", "short", "byte", "char",
        "boolean", "double", "float", "void", "String", "StringBuilder", "Integer", "ArrayList",
        "List");
    /** What the library may be called for, rule 4, as it is written. */
    private static final Set<String> LIBRARY = Set.of("System.arraycopy", "Arrays.copyOf",
        "Arrays.copyOfRange", "Arrays.fill", "Math.max", "Math.min", "Math.abs", "Math.floorDiv",
        "Math.floorMod", "Integer.compare", "Integer.bitCount", "List.of");
    private static final String[] LEFT_OUT = {"->", "::", "\\bthrows?\\b", "\\btry\\b",
        "\\bcatch\\b", "\\bfinally\\b", "\\bsynchronized\\b", "\\bassert\\b", "\\bvolatile\\b",
        "\\bnative\\b", "\\bpackage\\b", "\\bprotected\\b", "\\bvar\\b", "while \\(true\\)",
        "for \\(; ?;", "static \\{", "\\.hashCode\\(", "\\.toString\\(", "\\bequals\\(",
        "\\bdouble\\b"};
    private static final Check CHECK = new Check("LanguageTest");

    public static void main(String[] args) throws Exception {
        List<Class<?>> classes = new ArrayList<>();
        classes.add(BarrelProcessor.class);
        classes.addAll(List.of(BarrelProcessor.class.getDeclaredClasses()));
        CHECK.due("at most twelve classes", classes.size() <= MOST_CLASSES ? 1 : 0, 1);
        for (Class<?> one : classes) {
            hasFewFieldsOfTheRightTypes(one);
            hasFewParametersOfTheRightTypes(one);
            CHECK.due("classes inside " + one.getName(), one.getDeclaredClasses().length,
                    one == BarrelProcessor.class ? classes.size() - 1 : 0);
        }
        String code = bare(Files.readString(PROGRAM));
        leavesOutWhatTheRulesLeaveOut(code);
        callsTheListedLibraryAlone(code);
        hasShortMethods(Files.readAllLines(PROGRAM));
        CHECK.finish();
    }

    /** The program without its comments and without what stands in quotes. */
    private static String bare(String program) {
        return program.replaceAll("(?s)/\\*.*?\\*/", "").replaceAll("//[^\n]*", "")
                .replaceAll("\"[^\"\n]*\"", "\"\"").replaceAll("'[^'\n]*'", "' '");
    }

    private static void hasFewFieldsOfTheRightTypes(Class<?> one) {
        int fields = 0;
        for (Field field : one.getDeclaredFields()) {
            String name = one.getName() + "." + field.getName();
            if (Modifier.isStatic(field.getModifiers())) {
                CHECK.due(name + " is final", field.getModifiers() & Modifier.FINAL,
                        Modifier.FINAL);
                CHECK.due("type of " + name,
                        CONSTANT_TYPES.contains(field.getType().getSimpleName()) ? 1 : 0, 1);
            } else {
                fields++;
                CHECK.due("type of " + name, isRightType(field.getType()) ? 1 : 0, 1);
            }
        }
        CHECK.due(one.getName() + " has at most 20 fields", fields <= MOST_FIELDS ? 1 : 0, 1);
    }

    private static void hasFewParametersOfTheRightTypes(Class<?> one) {
        for (Constructor<?> constructor : one.getDeclaredConstructors()) {
            hasRightParameters(one.getName(), constructor.getParameterTypes());
        }
        for (Method method : one.getDeclaredMethods()) {
            String name = one.getName() + "." + method.getName();
            hasRightParameters(name, method.getParameterTypes());
            CHECK.due("type of " + name, isRightType(method.getReturnType()) ? 1 : 0, 1);
        }
    }

    private static void hasRightParameters(String name, Class<?>[] parameters) {
        CHECK.due(name + " has at most 7 parameters",
                parameters.length <= MOST_PARAMETERS ? 1 : 0, 1);
        for (Class<?> parameter : parameters) {
            CHECK.due("types for " + name, isRightType(parameter) ? 1 : 0, 1);
        }
    }

    private static boolean isRightType(Class<?> type) {
        Class<?> element = type.isArray() ? type.getComponentType() : type;
        return TYPES.contains(element.getSimpleName())
                || element.getName().startsWith("BarrelProcessor$")
                || element.isArray() && element.getComponentType().isPrimitive();
    }

    private static void leavesOutWhatTheRulesLeaveOut(String code) {
        for (String sign : LEFT_OUT) {
            CHECK.due("uses of " + sign, count(sign, code), 0);
        }
        CHECK.due("signs outside 1 to 127", count("[^\\x01-\\x7f]", code), 0);
        CHECK.due("imports but for Arrays",
                count("\\bimport (?!java\\.util\\.Arrays;)", code), 0);
    }

    private static void callsTheListedLibraryAlone(String code) {
        Matcher call = Pattern.compile("\\b(System|Arrays|Math|Integer|Long|List|String)\\.\\w+")
                .matcher(code);
        int calls = 0;
        while (call.find()) {
            calls++;
            CHECK.due("the rules list " + call.group(), LIBRARY.contains(call.group()) ? 1 : 0, 1);
        }
        CHECK.due("some calls were seen", calls > 0 ? 1 : 0, 1);
    }

    /** A method begins with a line that ends in ") {" where members stand, and ends below it. */
    private static void hasShortMethods(List<String> lines) {
        int methods = 0;
        for (int first = 0; first < lines.size(); first++) {
            Matcher head = Pattern.compile("( {4}| {8})\\w.*\\) \\{").matcher(lines.get(first));
            if (head.matches() && !lines.get(first).matches(" +(if|for|while|switch) .*")) {
                methods++;
                int last = lines.subList(first, lines.size()).indexOf(head.group(1) + "}");
                CHECK.due("lines of" + lines.get(first), last >= 0 && last < MOST_LINES ? 1 : 0, 1);
            }
        }
        CHECK.due("some methods were seen", methods > 60 ? 1 : 0, 1);
    }

    private static int count(String sign, String code) {
        Matcher found = Pattern.compile(sign).matcher(code);
        int count = 0;
        while (found.find()) {
            count++;
        }
        return count;
    }
}
