import java.lang.reflect.InvocationTargetException;
import java.lang.reflect.Method;
import java.util.ArrayList;
import java.util.HashMap;
import java.util.List;
import java.util.Map;
import java.util.TreeMap;

/**
 * Makes programs by chance (always the same ones), and compares every answer of Rowan with that of
 * the Model. Most programs are made for a type that is wanted, some are wild.
 */
public final class RandomRuns {

    private static final Map<String, Method> ROWAN = methodsOf(Rowan.class);
    private static final Map<String, Method> MODEL = methodsOf(Model.class);
    private static final TreeMap<String, Integer> ANSWERS = new TreeMap<>();

    private static Map<String, Method> methodsOf(Class<?> type) {
        Map<String, Method> methods = new HashMap<>();
        for (Method method : type.getDeclaredMethods()) {
            method.setAccessible(true);
            methods.put(method.getName(), method);
        }
        return methods;
    }

    private final Rowan rowan = new Rowan();
    private final Model model = new Model();
    private final StringBuilder calls = new StringBuilder();
    private long seed;
    private int wrong = 0;

    private RandomRuns(long seed) {
        this.seed = seed * 7919 + 17;
        for (int i = 0; i < 5; i++) {
            chance(2);
        }
    }

    private int chance(int bound) {
        seed = seed * 6364136223846793005L + 1442695040888963407L;
        return (int) ((seed >>> 33) % bound);
    }

    // ---- Calls of both ----

    private static Object answerOf(Object target, Method method, Object... arguments) {
        try {
            return method.invoke(target, arguments);
        } catch (InvocationTargetException error) {
            return "throws " + error.getCause().getClass().getSimpleName();
        } catch (IllegalAccessException error) {
            return "no access";
        }
    }

    private Object call(String name, Object... arguments) {
        Object got = answerOf(rowan, ROWAN.get(name), arguments);
        Object due = answerOf(model, MODEL.get(name), arguments);
        calls.append(name).append(java.util.Arrays.toString(arguments)).append(" = ").append(got).append("\n");
        if (!got.equals(due)) {
            calls.append("  DUE: ").append(due).append("\n");
            wrong++;
        }
        String kind = got instanceof Integer || got instanceof Float || got instanceof Double ? "number" : got.toString();
        ANSWERS.merge(name + " " + kind, 1, Integer::sum);
        return got;
    }

    private int make(String name, Object... arguments) {
        Object got = call(name, arguments);
        return got instanceof Integer ? (Integer) got : -1;
    }

    // ---- Terms for a wanted type ----

    private static final class Goal {
        final char kind;
        Goal left;
        Goal right;
        final TreeMap<Integer, Goal> labels = new TreeMap<>();
        int clazz;

        Goal(char kind) {
            this.kind = kind;
        }

        boolean is(Goal other) {
            if (kind != other.kind || !labels.keySet().equals(other.labels.keySet()) || clazz != other.clazz) {
                return false;
            }
            for (int label : labels.keySet()) {
                if (!labels.get(label).is(other.labels.get(label))) {
                    return false;
                }
            }
            return kind != 'f' || left.is(other.left) && right.is(other.right);
        }
    }

    private final List<TreeMap<Integer, Goal>> classGoals = new ArrayList<>();
    private int classLimit = 0;

    private Goal someGoal(int depth) {
        int kind = depth <= 0 ? 0 : chance(10);
        Goal goal;
        if (kind < 4) {
            return new Goal('i');
        }
        if (kind < 6) {
            goal = new Goal('f');
            goal.left = someGoal(depth - 1);
            goal.right = someGoal(depth - 1);
            return goal;
        }
        if (kind == 9 && classLimit > 0) {
            goal = new Goal('o');
            goal.clazz = chance(classLimit);
            return goal;
        }
        goal = new Goal(kind < 8 ? 'r' : 'v');
        int count = chance(3) + (kind < 8 ? 0 : 1);
        for (int i = 0; i < count; i++) {
            goal.labels.put(chance(4), someGoal(depth - 1));
        }
        return goal;
    }

    private static final class Names {
        final Map<Integer, Goal> goals = new HashMap<>();

        Names with(int name, Goal goal) {
            Names names = new Names();
            names.goals.putAll(goals);
            names.goals.put(name, goal);
            return names;
        }
    }

    private int termFor(Goal goal, Names names, int depth) {
        if (chance(60) == 0) {
            return wild(names, depth);
        }
        if (chance(150) == 0) {
            return termFor(someGoal(2), names, depth - 1);
        }
        List<Integer> fitting = new ArrayList<>();
        for (Map.Entry<Integer, Goal> entry : names.goals.entrySet()) {
            if (entry.getValue() != null && entry.getValue().is(goal)) {
                fitting.add(entry.getKey());
            }
        }
        if (!fitting.isEmpty() && (depth <= 0 || chance(3) == 0)) {
            return make("name", fitting.get(chance(fitting.size())));
        }
        if (depth > 0 && chance(2) == 0) {
            return detour(goal, names, depth - 1);
        }
        return direct(goal, names, depth - 1);
    }

    private int direct(Goal goal, Names names, int depth) {
        switch (goal.kind) {
            case 'i':
                if (depth > 0 && chance(3) == 0) {
                    return make("sum", termFor(goal, names, depth), termFor(goal, names, depth));
                }
                return make("number", chance(8) == 0 ? Integer.MAX_VALUE - chance(3) : chance(3));
            case 'f': {
                int name = chance(8);
                return make("function", name, termFor(goal.right, names.with(name, goal.left), depth));
            }
            case 'r': {
                int term = make("record");
                for (Map.Entry<Integer, Goal> entry : goal.labels.entrySet()) {
                    term = make("with", entry.getKey(), termFor(entry.getValue(), names, depth), term);
                }
                return term;
            }
            case 'v': {
                int label = new ArrayList<>(goal.labels.keySet()).get(chance(goal.labels.size()));
                return make("variant", label, termFor(goal.labels.get(label), names, depth));
            }
            default:
                return make("make", goal.clazz);
        }
    }

    private int detour(Goal goal, Names names, int depth) {
        int name = chance(8);
        Goal other = someGoal(2);
        switch (chance(9)) {
            case 0:
                return make("let", name, termFor(other, names, depth), termFor(goal, names.with(name, other), depth));
            case 1: {
                int function = make("function", name, termFor(goal, names.with(name, other), depth));
                return make("apply", function, termFor(other, names, depth));
            }
            case 2:
                return make("choice", termFor(new Goal('i'), names, depth), termFor(goal, names, depth),
                        termFor(goal, names, depth));
            case 3: {
                int label = chance(5);
                Goal record = new Goal('r');
                record.labels.put(label, goal);
                record.labels.put(chance(5), chance(2) == 0 ? goal : other);
                return record.labels.get(label) == goal ? make("get", termFor(record, names, depth), label)
                        : direct(goal, names, depth);
            }
            case 4:
                if (goal.kind == 'r') {
                    int label = chance(5);
                    Goal more = new Goal('r');
                    more.labels.putAll(goal.labels);
                    if (more.labels.putIfAbsent(label, other) == null) {
                        return make("without", termFor(more, names, depth), label);
                    }
                }
                return direct(goal, names, depth);
            case 5:
                return matchFor(goal, names, depth);
            case 6:
                return letForAll(goal, names, depth);
            case 7:
                if (goal.kind == 'o' && chance(3) == 0) {
                    return make("narrow", termFor(goal, names, depth), 1023);
                }
                return sendFor(goal, names, depth);
            default:
                return sendFor(goal, names, depth);
        }
    }

    private int matchFor(Goal goal, Names names, int depth) {
        Goal variant = new Goal('v');
        int count = 1 + chance(3);
        for (int i = 0; i < count; i++) {
            variant.labels.put(chance(6), someGoal(1));
        }
        int term = termFor(variant, names, depth);
        boolean isOpen = chance(3) == 0;
        int name = chance(8);
        int cases = isOpen ? make("otherCases", name, termFor(goal, names.with(name, null), depth)) : make("noCases");
        for (int label : variant.labels.keySet()) {
            if (!isOpen || chance(2) == 0) {
                name = chance(8);
                int body = termFor(goal, names.with(name, variant.labels.get(label)), depth);
                cases = make("caseFor", label, name, body, cases);
                if (chance(6) == 0) {
                    cases = make("caseFor", label, chance(8), direct(goal, names, 0), cases);
                }
            }
        }
        return make("match", term, cases);
    }

    /** Binds a function for all types, and uses it twice. */
    private int letForAll(Goal goal, Names names, int depth) {
        int name = chance(8);
        int x = chance(8);
        int bound;
        switch (chance(4)) {
            case 0:
                bound = make("function", x, make("name", x));
                break;
            case 1:
                bound = make("function", x, make("get", make("with", 7, make("name", x), make("record")), 7));
                break;
            case 2: {
                int y = chance(8);
                int inner = make("function", y, make("name", y));
                bound = make("apply", make("function", x, make("name", x)), inner);
                break;
            }
            default: {
                int inner = make("match", make("variant", 3, make("name", x)),
                        make("caseFor", 3, x, make("name", x), make("noCases")));
                bound = make("function", x, inner);
                break;
            }
        }
        Names inside = names.with(name, null);
        int first = make("apply", make("name", name), termFor(goal, inside, depth - 1));
        if (chance(2) == 0) {
            int other = make("apply", make("name", name), termFor(new Goal('i'), inside, depth - 1));
            first = make("choice", other, first, termFor(goal, inside, 0));
        }
        return make("let", name, bound, first);
    }

    private int sendFor(Goal goal, Names names, int depth) {
        for (Map.Entry<Integer, Goal> entry : names.goals.entrySet()) {
            Goal self = entry.getValue();
            if (self != null && self.kind == 's' && chance(2) == 0) {
                for (Map.Entry<Integer, Goal> method : self.labels.entrySet()) {
                    if (method.getValue().is(goal) && chance(2) == 0) {
                        return make("send", make("name", entry.getKey()), method.getKey());
                    }
                }
            }
        }
        for (int clazz = 0; clazz < classLimit; clazz++) {
            for (Map.Entry<Integer, Goal> method : classGoals.get(clazz).entrySet()) {
                if (method.getValue().is(goal) && chance(2) == 0) {
                    int object = make("make", clazz);
                    if (chance(4) == 0) {
                        object = make("narrow", object, 1 << method.getKey());
                    }
                    return make("send", object, method.getKey());
                }
            }
        }
        return direct(goal, names, depth);
    }

    /** A term of any shape, whose names are bound at least. */
    private int wild(Names names, int depth) {
        List<Integer> bound = new ArrayList<>(names.goals.keySet());
        if (depth <= 0) {
            return bound.isEmpty() || chance(40) == 0 ? make("number", chance(3))
                    : make("name", bound.get(chance(bound.size())));
        }
        int name = chance(8);
        int label = chance(3);
        Names inside = names.with(name, null);
        switch (chance(15)) {
            case 0:
            case 1:
                return make("function", name, wild(inside, depth - 1));
            case 2:
            case 3:
                return make("apply", wild(names, depth - 1), wild(names, depth - 1));
            case 4:
                return make("let", name, wild(names, depth - 1), wild(inside, depth - 1));
            case 5:
                return make("choice", wild(names, 0), wild(names, depth - 1), wild(names, depth - 1));
            case 6:
                return make("with", label, wild(names, depth - 1), wild(names, depth - 1));
            case 7:
                return make("get", wild(names, depth - 1), label);
            case 8:
                return make("without", wild(names, depth - 1), label);
            case 9:
                return make("variant", label, wild(names, depth - 1));
            case 10: {
                int cases = chance(2) == 0 ? make("noCases") : make("otherCases", name, wild(inside, depth - 1));
                for (int i = chance(3); i > 0; i--) {
                    name = chance(8);
                    cases = make("caseFor", chance(3), name, wild(names.with(name, null), depth - 1), cases);
                }
                return make("match", wild(names, depth - 1), cases);
            }
            case 11:
                return make("send", wild(names, depth - 1), label);
            case 12:
                return make("narrow", wild(names, depth - 1), chance(8));
            case 13:
                return classLimit > 0 ? make("make", chance(classLimit)) : make("record");
            default:
                return wild(names, 0);
        }
    }

    private void addClasses() {
        int count = chance(4);
        for (int i = 0; i < count; i++) {
            int self = chance(8);
            int parent = i > 0 && chance(2) == 0 ? chance(i) : -1;
            int clazz = make("addClass", self, parent);
            if (clazz < 0) {
                return;
            }
            TreeMap<Integer, Goal> goals = new TreeMap<>();
            if (parent >= 0) {
                goals.putAll(classGoals.get(parent));
            }
            Goal selfGoal = new Goal('s');
            TreeMap<Integer, Goal> own = new TreeMap<>();
            for (int m = chance(4); m >= 0; m--) {
                int label = chance(4);
                own.put(label, goals.containsKey(label) ? goals.get(label) : someGoal(1));
            }
            goals.putAll(own);
            selfGoal.labels.putAll(goals);
            if (chance(6) == 0) {
                selfGoal.labels.put(4, new Goal('i'));
            }
            for (Map.Entry<Integer, Goal> method : own.entrySet()) {
                int body = termFor(method.getValue(), new Names().with(self, selfGoal), 2);
                if (body >= 0) {
                    call("addMethod", clazz, method.getKey(), body);
                }
            }
            classGoals.add(goals);
            classLimit = i + 1;
        }
    }

    // ---- Questions ----

    private String ask(int term) {
        Object error = call("error", term);
        call("errorAt", term);
        Object length = call("typeLength", term);
        call("variables", term);
        call("typeAt", term, -1);
        if (!(length instanceof Integer)) {
            call("run", term);
            return null;
        }
        StringBuilder text = new StringBuilder();
        for (int i = 0; i <= (Integer) length; i++) {
            Object character = call("typeAt", term, i);
            if (character instanceof Character) {
                text.append((char) (Character) character);
            }
        }
        return text.toString();
    }

    private void runAndAsk(int term, String way) {
        call(way, term);
        call("outcome");
        call("result");
        call("resultLabel");
        call("resultClass");
        for (int label = -1; label <= 10; label++) {
            call("resultField", label);
        }
    }

    private void askCaches() {
        for (int term = 0; term <= (Integer) call("terms"); term++) {
            call("hits", term);
            call("misses", term);
        }
        call("hitShare");
        call("hitShareBits");
        for (int clazz = -1; clazz <= 8; clazz++) {
            call("methods", clazz);
            for (int label = -1; label <= 10; label++) {
                call("methodOf", clazz, label);
            }
        }
    }

    private void writeText(String text) {
        for (int i = 0; i < text.length(); i++) {
            call("write", text.charAt(i));
        }
        call("isType");
    }

    private static final String SIGNS = "0123456789int :,|'-><(){}[]";

    private String changed(String text) {
        StringBuilder other = new StringBuilder(text);
        for (int i = chance(3); i > 0 && other.length() > 0; i--) {
            int at = chance(other.length());
            char sign = SIGNS.charAt(chance(SIGNS.length()));
            int way = chance(4);
            if (way == 0) {
                other.deleteCharAt(at);
            } else if (way == 1) {
                other.insert(at, sign);
            } else if (way == 2) {
                other.setCharAt(at, Character.isDigit(other.charAt(at)) ? (char) ('0' + chance(10)) : sign);
            } else {
                other.setCharAt(at, Character.isDigit(other.charAt(at)) ? (char) ('0' + chance(4)) : other.charAt(at));
            }
        }
        return other.toString();
    }

    private String someText(int depth) {
        switch (depth <= 0 ? chance(2) : chance(7)) {
            case 0:
                return "int";
            case 1:
            case 2:
                return "'" + chance(3);
            case 3: {
                String left = someText(depth - 1);
                return (left.contains(" -> ") && chance(5) != 0 ? "(" + left + ")" : left) + " -> " + someText(depth - 1);
            }
            default: {
                String[] pairs = {"{}", "[]", "<>"};
                String pair = pairs[chance(3)];
                StringBuilder row = new StringBuilder(pair.substring(0, 1));
                String comma = "";
                for (int label = 0; label < 4; label++) {
                    if (chance(3) == 0) {
                        row.append(comma).append(label).append(":").append(someText(depth - 1));
                        comma = ",";
                    }
                }
                if (chance(2) == 0) {
                    String[] lacks = {"", "0", "3", "01", "2"};
                    row.append("|'").append(5 + chance(2)).append("-").append(lacks[chance(5)]);
                }
                return row.append(pair.substring(1)).toString();
            }
        }
    }

    private void wrongCalls() {
        String[] names = {"name", "function", "apply", "let", "sum", "choice", "with", "get", "without", "variant",
            "match", "caseFor", "otherCases", "addClass", "addMethod", "make", "send", "narrow", "error", "hits",
            "misses", "run", "runBySearch", "typeLength", "isGeneral", "accepts", "variables", "errorAt"};
        String name = names[chance(names.length)];
        Object[] arguments = new Object[ROWAN.get(name).getParameterCount()];
        for (int i = 0; i < arguments.length; i++) {
            arguments[i] = chance(4) == 0 ? chance(100) - 10 : chance(12) - 1;
        }
        call(name, arguments);
    }

    // ---- Long runs and large types ----

    private int numeral(int depth) {
        return depth == 0 || chance(4) == 0 ? make("name", 0)
                : make("apply", numeral(depth - 1), numeral(depth - 1));
    }

    /** Numbers as functions that do another one as often. */
    private int repeated() {
        int twice = make("apply", make("name", 1), make("apply", make("name", 1), make("name", 2)));
        int two = make("function", 1, make("function", 2, twice));
        int more = make("function", 4, make("sum", make("name", 4), make("number", 1)));
        int all = make("apply", make("apply", numeral(3), more), make("number", 0));
        return make("let", 0, two, all);
    }

    private int lower(int by) {
        int sum = make("sum", make("name", 1), make("number", -by));
        return make("apply", make("send", make("name", 0), 0), sum);
    }

    /** A method that runs itself once or twice, with a lower number. */
    private int recursive() {
        int clazz = make("addClass", 0, -1);
        int again = chance(2) == 0 ? make("sum", lower(1), lower(2)) : make("sum", make("number", 1), lower(1));
        int inner = make("choice", make("sum", make("name", 1), make("number", -1)), again, make("number", 1));
        call("addMethod", clazz, 0, make("function", 1, make("choice", make("name", 1), inner, make("number", 1))));
        int number = make("number", chance(4) == 0 ? chance(60) : chance(14));
        return make("apply", make("send", make("make", clazz), 0), number);
    }

    private int pair(int first, int second) {
        return make("with", chance(10), first, make("with", chance(10), second, make("record")));
    }

    /** A type that gets large; name 0 doubles, name 1 narrows, name 2 is for all. */
    private int large(int depth) {
        if (depth == 0) {
            return chance(3) == 0 ? make("number", 1) : make("name", chance(3));
        }
        switch (chance(8)) {
            case 0:
            case 1:
            case 2:
                return make("apply", make("name", 0), large(depth - 1));
            case 3:
                return make("function", 3 + chance(2), large(depth - 1));
            case 4:
                return make("variant", chance(10), large(depth - 1));
            case 5:
                return pair(large(depth - 1), large(depth - 1));
            case 6:
                return make("choice", make("number", 0), make("name", chance(3)), large(depth - 1));
            default:
                return make("let", 2, large(depth - 1), large(depth - 1));
        }
    }

    private int largeWithNames() {
        int body = large(3 + chance(5));
        int narrow = make("let", 1, make("function", 5, make("narrow", make("name", 5), chance(1024))), body);
        int all = make("let", 2, make("function", 5, make("name", 5)), narrow);
        return make("let", 0, make("function", 5, pair(make("name", 5), make("name", 5))), all);
    }

    private int largeObject() {
        int parent = -1;
        for (int i = 1 + chance(3); i > 0; i--) {
            int clazz = make("addClass", 5, parent);
            for (int label = chance(2); label < 3; label++) {
                call("addMethod", clazz, chance(10), chance(3) == 0 ? largeWithNames()
                        : make("function", 1, pair(make("name", 1), make("send", make("name", 5), chance(10)))));
            }
            parent = clazz;
        }
        return make("make", parent);
    }

    private void heavy() {
        int term;
        switch (chance(4)) {
            case 0:
                term = repeated();
                break;
            case 1:
                term = recursive();
                break;
            case 2:
                term = largeWithNames();
                break;
            default:
                term = largeObject();
                break;
        }
        if (chance(3) == 0) {
            make("function", chance(8), term);
        }
    }

    private int play() {
        if (chance(5) == 0) {
            heavy();
        } else {
            addClasses();
        }
        boolean isWild = chance(4) == 0;
        int depth = 2 + chance(4);
        List<String> texts = new ArrayList<>();
        for (int i = 0; i < 4; i++) {
            if (isWild) {
                wild(new Names(), depth);
            } else {
                termFor(someGoal(2), new Names(), depth);
            }
            for (int j = chance(4); j > 0; j--) {
                wrongCalls();
            }
        }
        int count = (Integer) call("terms");
        for (int term = -1; term <= count; term++) {
            String text = ask(term);
            if (text != null) {
                texts.add(text);
                runAndAsk(term, "run");
                runAndAsk(term, "runBySearch");
            }
        }
        askCaches();
        for (int i = 0; i < 8; i++) {
            call("erase");
            writeText(i < 4 && !texts.isEmpty() ? changed(texts.get(chance(texts.size()))) : someText(3));
            for (int j = 0; j < 6; j++) {
                call("accepts", chance(count + 2) - 1);
                call("isGeneral", chance(count + 2) - 1, chance(count + 2) - 1);
            }
        }
        call("meanLength");
        call("isSound");
        askCaches();
        call("outcome");
        return wrong;
    }

    public static void main(String[] arguments) {
        int from = arguments.length > 0 ? Integer.parseInt(arguments[0]) : 1;
        int to = arguments.length > 1 ? Integer.parseInt(arguments[1]) : 1500;
        int failed = 0;
        for (int seed = from; seed <= to; seed++) {
            RandomRuns run = new RandomRuns(seed);
            try {
                run.play();
            } catch (RuntimeException error) {
                run.calls.append("  BROKEN: ").append(error).append("\n");
                run.wrong++;
            }
            if (run.wrong > 0) {
                failed++;
                if (failed <= 2) {
                    System.out.println("---- run " + seed + "\n" + run.calls);
                }
            }
        }
        if (arguments.length > 2) {
            System.out.println(ANSWERS);
        }
        System.out.println("random runs: " + (to - from + 1 - failed) + " right, " + failed + " wrong");
        System.exit(failed == 0 ? 0 : 1);
    }
}
