import java.io.IOException;
import java.lang.reflect.Array;
import java.lang.reflect.Constructor;
import java.lang.reflect.Field;
import java.lang.reflect.Method;
import java.lang.reflect.Modifier;
import java.nio.file.Files;
import java.nio.file.Path;
import java.util.ArrayList;
import java.util.HashMap;
import java.util.List;
import java.util.Map;
import java.util.Set;
import java.util.TreeSet;
import java.util.regex.Matcher;
import java.util.regex.Pattern;

/** Looks for what ../shared/LANGUAGE.md rules out, as far as the source and the compiled classes can tell. */
public final class LanguageTest {

    /** What rule 4 lists, told as the compiled classes do. */
    private static final Pattern LIBRARY = Pattern.compile("java/lang/Object\\.<init>|\\[.*\\.clone"
            + "|java/lang/String\\.(length|charAt|isEmpty|equals|indexOf|substring|toCharArray|<init>)"
            + "|java/lang/StringBuilder\\.(<init>|append|charAt|setCharAt|setLength|deleteCharAt|reverse|length|toString)"
            + "|java/util/(ArrayList|List)\\.(<init>|add|get|set|remove|size|isEmpty|clear|iterator|of)"
            + "|java/lang/(Integer|Long|Math)\\.(?!\\w*Exact$)\\w+"
            + "|java/lang/System\\.arraycopy|java/util/Arrays\\.(copyOf|copyOfRange|fill)");

    /** What rule 6 lists. */
    private static final Pattern EXCEPTIONS = Pattern.compile("java/lang/(IllegalState|IllegalArgument"
            + "|IndexOutOfBounds|Arithmetic|UnsupportedOperation|Runtime)Exception|java/util/NoSuchElementException");

    private static final int MOST_DEEP = 8;

    /** What one run of calls may make, less what each of 512 calls may throw. */
    private static final int MOST_OBJECTS = 600000 - 10 * 512;
    private static final int MOST_ELEMENTS = 7300000 - 20 * 512;

    private static final Map<String, ClassFile.Code> CODES = new HashMap<>();
    private static int wrong = 0;

    private static void rule(int number, boolean isKept, String what) {
        if (!isKept) {
            wrong++;
            System.out.println("rule " + number + ": " + what);
        }
    }

    // ---- What reflection tells ----

    private static List<Class<?>> classes() {
        List<Class<?>> all = new ArrayList<>(List.of(Rowan.class.getDeclaredClasses()));
        all.add(Rowan.class);
        return all;
    }

    /** The lines of the document that tell the constructor and the methods, without the names of arguments. */
    private static Set<String> faceOfDocument() throws IOException {
        Set<String> face = new TreeSet<>();
        for (String line : Files.readAllLines(Path.of("../shared/DOC.md"))) {
            if (line.matches(" {4}public .*;")) {
                face.add(line.trim().replaceAll("(int|char) \\w+(?=[,)])", "$1"));
            }
        }
        return face;
    }

    private static String told(String start, Class<?>[] arguments, Class<?>[] exceptions) {
        return "public " + start + "(" + joined(arguments) + ")"
                + (exceptions.length == 0 ? "" : " throws " + joined(exceptions)) + ";";
    }

    private static String joined(Class<?>[] types) {
        List<String> names = new ArrayList<>();
        for (Class<?> type : types) {
            names.add(type.getSimpleName());
        }
        return String.join(", ", names);
    }

    private static void face() throws IOException {
        Set<String> names = new TreeSet<>();
        Set<String> found = new TreeSet<>();
        for (Method method : Rowan.class.getDeclaredMethods()) {
            if (!Modifier.isPrivate(method.getModifiers())) {
                names.add(method.getName());
                rule(1, Modifier.isPublic(method.getModifiers()), "no public " + method.getName());
                found.add(told(method.getReturnType() + " " + method.getName(), method.getParameterTypes(),
                        method.getExceptionTypes()));
            }
        }
        Constructor<?>[] constructors = Rowan.class.getDeclaredConstructors();
        rule(1, constructors.length == 1 && Modifier.isPublic(constructors[0].getModifiers()), "constructors");
        found.add(told("Rowan", constructors[0].getParameterTypes(), constructors[0].getExceptionTypes()));
        rule(1, faceOfDocument().equals(found), "the face is " + found);
        rule(1, Modifier.isFinal(Rowan.class.getModifiers()), "Rowan is not final");
        for (Field field : Rowan.class.getDeclaredFields()) {
            rule(1, Modifier.isPrivate(field.getModifiers()), "field " + field.getName());
        }
        for (Class<?> inner : Rowan.class.getDeclaredClasses()) {
            rule(1, Modifier.isStatic(inner.getModifiers()), inner + " is not static");
            rule(1, !Modifier.isPublic(inner.getModifiers()), inner + " is public");
        }
        rule(11, classes().size() <= 12, classes().size() + " classes");
        for (Class<?> each : classes()) {
            fields(each);
            methods(each, names);
        }
    }

    private static void fields(Class<?> type) {
        int count = 0;
        for (Field field : type.getDeclaredFields()) {
            rule(3, isPlain(field.getType()), type + "." + field.getName() + " is a " + field.getType());
            if (Modifier.isStatic(field.getModifiers())) {
                rule(5, Modifier.isFinal(field.getModifiers()), "static " + field.getName());
                rule(5, !field.getType().isArray() && !isOwn(field.getType()), "static " + field.getName());
            } else {
                count++;
            }
        }
        rule(11, count <= 20, type + " has " + count + " fields");
    }

    /** Numbers, texts, own classes, and arrays of numbers. */
    private static boolean isPlain(Class<?> type) {
        return type.isPrimitive() || type == String.class || isOwn(type)
                || type.isArray() && type.getComponentType().isPrimitive();
    }

    private static boolean isOwn(Class<?> type) {
        return classes().contains(type);
    }

    private static void methods(Class<?> type, Set<String> face) {
        for (Method method : type.getDeclaredMethods()) {
            boolean isOfFace = type == Rowan.class && Modifier.isPublic(method.getModifiers());
            rule(1, isOfFace || !face.contains(method.getName()), type + " has another " + method.getName());
            rule(11, method.getParameterCount() <= 7, method + " takes too much");
        }
    }

    /** Objects and arrays, and fields and elements, of a new Rowan: no call makes any but exceptions. */
    private static void room() throws IllegalAccessException {
        List<Object> found = new ArrayList<>();
        found.add(new Rowan());
        long elements = 0;
        for (int i = 0; i < found.size() && i <= MOST_OBJECTS; i++) {
            Object each = found.get(i);
            if (each.getClass().isArray()) {
                elements += Array.getLength(each);
                continue;
            }
            for (Field field : each.getClass().getDeclaredFields()) {
                if (!Modifier.isStatic(field.getModifiers())) {
                    elements++;
                    field.setAccessible(true);
                    addNew(found, field.getType().isPrimitive() ? null : field.get(each));
                }
            }
        }
        rule(12, found.size() > 10 && found.size() <= MOST_OBJECTS, found.size() + " objects and arrays");
        rule(12, elements > 1000 && elements <= MOST_ELEMENTS, elements + " fields and elements");
    }

    private static void addNew(List<Object> found, Object object) {
        for (Object each : found) {
            if (each == object) {
                return;
            }
        }
        if (object != null && !(object instanceof String)) {
            found.add(object);
        }
    }

    // ---- What the compiled classes tell ----

    private static void codes() throws IOException {
        for (Class<?> type : classes()) {
            for (ClassFile.Code code : ClassFile.codesOf(type)) {
                rule(8, CODES.put(code.name, code) == null || code.name.endsWith("<init>"), "two named " + code.name);
            }
        }
        for (ClassFile.Code code : CODES.values()) {
            code(code);
            int deep = depthOf(code.name, 1);
            rule(11, deep <= MOST_DEEP, "calls go " + deep + " deep from " + code.name);
        }
        rule(11, depthOf("Rowan.isSound", 1) > 4, "the depth of calls is not seen");
    }

    private static void code(ClassFile.Code code) {
        boolean isMaking = code.name.endsWith(".<init>");
        int exceptions = 0;
        for (String made : code.objects) {
            exceptions += EXCEPTIONS.matcher(made).matches() ? 1 : 0;
        }
        for (String called : code.calls) {
            String owner = called.substring(0, called.indexOf('.'));
            rule(4, CODES.containsKey(called) || LIBRARY.matcher(called).matches()
                    || EXCEPTIONS.matcher(owner).matches(), code.name + " calls " + called);
        }
        rule(2, !code.isDynamic, code.name + " holds a lambda, a method reference or texts joined by +");
        rule(5, !code.name.endsWith("<clinit>"), code.name);
        rule(6, code.catching == 0, code.name + " catches");
        rule(6, code.throwing == exceptions, code.name + " throws what it has not made");
        rule(6, !isMaking || code.throwing == 0, code.name + " throws");
        // Stricter than the rule: only constructors make rows and objects, so that no run of calls fills the room.
        rule(12, isMaking || code.arrays == 0 && code.objects.size() == exceptions, code.name + " makes objects");
    }

    /** How deep the calls of a method go; no call comes back to a method that stands open. */
    private static int depthOf(String name, int depth) {
        if (depth > 2 * MOST_DEEP) {
            return depth;
        }
        int deepest = depth;
        for (String called : CODES.get(name).calls) {
            rule(8, !called.equals(name), name + " calls itself");
            if (CODES.containsKey(called) && !called.endsWith("<init>")) {
                deepest = Math.max(deepest, depthOf(called, depth + 1));
            }
        }
        return deepest;
    }

    // ---- What the source tells ----

    private static String bare(String source) {
        return source.replaceAll("(?s)/\\*.*?\\*/", "").replaceAll("//[^\n]*", "")
                .replaceAll("'\\\\?.'", "0").replaceAll("\"[^\"\n]*\"", "TEXT");
    }

    private static void none(int rule, String code, String pattern) {
        Matcher matcher = Pattern.compile(pattern).matcher(code);
        while (matcher.find()) {
            rule(rule, false, matcher.group());
        }
    }

    private static void methodLengths(String source) {
        String[] lines = source.split("\n");
        int from = -1;
        for (int i = 0; i < lines.length; i++) {
            boolean isHead = lines[i].matches("( {4}| {8})(public |private |static |final )*[\\w\\[\\]]+ \\w+\\(.*")
                    || lines[i].matches(" {8}\\w+\\(.*\\{");
            if (isHead && !lines[i].endsWith(";")) {
                from = i;
            }
            if (from >= 0 && lines[i].equals(lines[from].replaceAll("\\S.*", "") + "}")) {
                rule(11, i - from + 1 <= 60, "a long method: " + lines[from].trim());
                from = -1;
            }
        }
    }

    /** Each loop has a counter that is tested against a bound, or goes over an array. */
    private static void loops(String code) {
        none(9, code, "\\b(while|do)\\b");
        Matcher matcher = Pattern.compile("\\bfor \\((.*)\\) \\{").matcher(code);
        int loops = 0;
        while (matcher.find()) {
            loops++;
            rule(9, matcher.group(1).matches("int (\\w+) = .*; \\1 (<|<=|>=) .*; \\1(\\+\\+|--)|\\w+ \\w+ : \\w+"),
                    matcher.group());
        }
        rule(9, loops == code.split("\\bfor\\b").length - 1, "a loop is not looked at");
    }

    public static void main(String[] arguments) throws IOException, IllegalAccessException {
        String source = Files.readString(Path.of("src/main/java/Rowan.java"));
        String code = bare(source);
        face();
        room();
        codes();
        methodLengths(source);
        loops(code);
        none(1, code, "\\bpackage\\b");
        none(3, code, "->|::|\\b(Map|Set|HashMap|Object|Long|Double|Character|var)\\b");
        none(4, source, "[^\\x00-\\x7f]");
        none(4, code, "\\bimport (?!java\\.util\\.(Arrays|NoSuchElementException);).*");
        none(6, code, "\\b(try|catch|finally|synchronized|assert)\\b");
        none(6, code, "throw new (?!\\w+\\(TEXT\\);).*");
        none(6, code, "\\b(equals|hashCode|toString)\\b");
        none(10, code, "TEXT \\+|\\+ TEXT");
        System.out.println("language: " + wrong + " faults");
        System.exit(wrong == 0 ? 0 : 1);
    }
}
