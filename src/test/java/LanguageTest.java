import java.io.IOException;
import java.lang.reflect.Constructor;
import java.lang.reflect.Field;
import java.lang.reflect.Method;
import java.lang.reflect.Modifier;
import java.nio.file.Files;
import java.nio.file.Path;
import java.util.ArrayList;
import java.util.List;
import java.util.Set;
import java.util.TreeSet;
import java.util.regex.Matcher;
import java.util.regex.Pattern;

/** Looks for what ../shared/LANGUAGE.md rules out, as far as a plain look at the source can tell. */
public final class LanguageTest {

    private static int wrong = 0;

    private static void rule(int number, boolean isKept, String what) {
        if (!isKept) {
            wrong++;
            System.out.println("rule " + number + ": " + what);
        }
    }

    private static final String FACE = "number name function apply let sum choice record with get without variant match "
            + "noCases caseFor otherCases addClass addMethod make send narrow terms error errorAt typeLength typeAt "
            + "variables isGeneral write erase isType accepts methods methodOf run runBySearch outcome result "
            + "resultLabel resultField resultClass hits misses hitShare hitShareBits meanLength isSound";

    private static void face() {
        Set<String> face = new TreeSet<>(List.of(FACE.split(" ")));
        Set<String> found = new TreeSet<>();
        for (Method method : Rowan.class.getDeclaredMethods()) {
            if (Modifier.isPrivate(method.getModifiers())) {
                rule(1, !face.contains(method.getName()), "private " + method.getName());
            } else {
                rule(1, Modifier.isPublic(method.getModifiers()), "no public " + method.getName());
                found.add(method.getName());
            }
        }
        rule(1, face.equals(found), "the face is " + found);
        for (Field field : Rowan.class.getDeclaredFields()) {
            rule(1, Modifier.isPrivate(field.getModifiers()), "field " + field.getName());
        }
        Constructor<?>[] constructors = Rowan.class.getDeclaredConstructors();
        rule(1, constructors.length == 1 && Modifier.isPublic(constructors[0].getModifiers()), "constructors");
        List<Class<?>> all = new ArrayList<>(List.of(Rowan.class.getDeclaredClasses()));
        for (Class<?> inner : all) {
            rule(1, Modifier.isStatic(inner.getModifiers()), inner + " is not static");
        }
        all.add(Rowan.class);
        rule(11, all.size() <= 12, all.size() + " classes");
        for (Class<?> each : all) {
            fields(each);
        }
    }

    private static void fields(Class<?> type) {
        int count = 0;
        for (Field field : type.getDeclaredFields()) {
            if (Modifier.isStatic(field.getModifiers())) {
                rule(5, Modifier.isFinal(field.getModifiers()), "static " + field.getName());
            } else {
                count++;
            }
        }
        rule(11, count <= 20, type + " has " + count + " fields");
        for (Method method : type.getDeclaredMethods()) {
            rule(11, method.getParameterCount() <= 7, method + " takes too much");
        }
    }

    private static String bare(String source) {
        return source.replaceAll("(?s)/\\*.*?\\*/", "").replaceAll("//[^\n]*", "")
                .replaceAll("'\\\\?.'", "0").replaceAll("\"[^\"\n]*\"", "TEXT");
    }

    private static void none(int rule, String code, String pattern) {
        Matcher matcher = Pattern.compile(pattern).matcher(code);
        while (matcher.find()) {
            rule(rule, false, matcher.group());
        }
    }

    private static void methodLengths(String source) {
        String[] lines = source.split("\n");
        int from = -1;
        for (int i = 0; i < lines.length; i++) {
            boolean isHead = lines[i].matches("( {4}| {8})(public |private |static |final )*[\\w\\[\\]]+ \\w+\\(.*")
                    || lines[i].matches(" {8}\\w+\\(.*\\{");
            if (isHead && !lines[i].endsWith(";")) {
                from = i;
            }
            if (from >= 0 && lines[i].equals(lines[from].replaceAll("\\S.*", "") + "}")) {
                rule(11, i - from + 1 <= 60, "a long method: " + lines[from].trim());
                from = -1;
            }
        }
    }

    public static void main(String[] arguments) throws IOException {
        String source = Files.readString(Path.of("src/main/java/Rowan.java"));
        String code = bare(source);
        face();
        methodLengths(source);
        none(3, code, "->|::|\\b(Map|Set|HashMap|Object|Long|Double|Character|var)\\b");
        none(4, code, "\\bimport (?!java\\.util\\.(Arrays|NoSuchElementException);).*");
        none(4, code, "\\b(System\\.(?!arraycopy)\\w+|Math\\.\\w+Exact|Float\\.\\w+|Double\\.\\w+|String\\.\\w+)");
        none(4, code, "\\bArrays\\.(?!copyOf|copyOfRange|fill)\\w+");
        none(6, code, "\\b(try|catch|finally|synchronized|assert)\\b");
        none(6, code, "throw new (?!(IllegalState|IllegalArgument|IndexOutOfBounds|Arithmetic|UnsupportedOperation"
                + "|NoSuchElement|Runtime)(Operation)?Exception\\().*");
        none(6, code, "\\b(equals|hashCode|toString)\\b");
        none(9, code, "\\b(while|do)\\b");
        none(10, code, "TEXT \\+|\\+ TEXT");
        System.out.println("language: " + wrong + " faults");
        System.exit(wrong == 0 ? 0 : 1);
    }
}
