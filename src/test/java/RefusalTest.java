import java.io.IOException;
import java.nio.file.Files;
import java.nio.file.Path;
import java.util.ArrayList;
import java.util.HashMap;
import java.util.List;
import java.util.Map;
import java.util.NoSuchElementException;
import java.util.Set;
import java.util.TreeSet;

/**
 * Refused calls: each throws the exception that is listed first of those that apply, and changes nothing; and
 * what is just inside is not refused. The wrong arguments of each call are tried alone and with one another.
 */
public final class RefusalTest {

    private static final List<Class<?>> NONE = List.of();
    private static final Class<?> ARGUMENT = IllegalArgumentException.class;
    private static final Class<?> INDEX = IndexOutOfBoundsException.class;
    private static final Class<?> UNSUPPORTED = UnsupportedOperationException.class;
    private static final Class<?> STATE = IllegalStateException.class;
    private static final Class<?> ELEMENT = NoSuchElementException.class;
    private static final Class<?> ARITHMETIC = ArithmeticException.class;

    private static final int MIN = Integer.MIN_VALUE;
    private static final int MAX = Integer.MAX_VALUE;

    private static int right = 0;
    private static int wrong = 0;
    /** Which exceptions have been due, each with its promise, as "24 IndexOutOfBoundsException". */
    private static final Set<String> SEEN = new TreeSet<>();
    private static final Map<Probe.Setup, String> STATES = new HashMap<>();

    private interface Making {
        int make(Rowan x, int[] a);
    }

    private interface Asking {
        Object ask(Rowan x);
    }

    /** A call that makes a term; its kinds tell what each argument is. */
    private record Maker(int promise, String name, String kinds, Making making) {
    }

    private static final List<Maker> MAKERS = List.of(
            new Maker(2, "number", "I", (x, a) -> x.number(a[0])),
            new Maker(3, "name", "N", (x, a) -> x.name(a[0])),
            new Maker(4, "function", "NT", (x, a) -> x.function(a[0], a[1])),
            new Maker(5, "apply", "TT", (x, a) -> x.apply(a[0], a[1])),
            new Maker(6, "let", "NTT", (x, a) -> x.let(a[0], a[1], a[2])),
            new Maker(7, "sum", "TT", (x, a) -> x.sum(a[0], a[1])),
            new Maker(8, "choice", "TTT", (x, a) -> x.choice(a[0], a[1], a[2])),
            new Maker(9, "record", "", (x, a) -> x.record()),
            new Maker(10, "with", "LTT", (x, a) -> x.with(a[0], a[1], a[2])),
            new Maker(11, "get", "TL", (x, a) -> x.get(a[0], a[1])),
            new Maker(12, "without", "TL", (x, a) -> x.without(a[0], a[1])),
            new Maker(13, "variant", "LT", (x, a) -> x.variant(a[0], a[1])),
            new Maker(14, "match", "TC", (x, a) -> x.match(a[0], a[1])),
            new Maker(15, "noCases", "", (x, a) -> x.noCases()),
            new Maker(16, "caseFor", "LNTC", (x, a) -> x.caseFor(a[0], a[1], a[2], a[3])),
            new Maker(17, "otherCases", "NT", (x, a) -> x.otherCases(a[0], a[1])),
            new Maker(21, "send", "TL", (x, a) -> x.send(a[0], a[1])),
            new Maker(22, "narrow", "TS", (x, a) -> x.narrow(a[0], a[1])));

    // ---- Setups ----

    private static final int TERMS = 13;
    private static final int[] FREE = {0, 2, 12};
    private static final int FREE_CASES = 1;
    private static final int UNTYPED = 3;
    private static final int PART = 4;
    private static final int PART_OF_MATCH = 6;
    private static final int CASES_OF_MATCH = 7;
    private static final int NOT_THE_SAME = 8;
    private static final int BODY = 9;
    private static final int SENDS = 11;

    private static void some(Rowan x) {
        x.number(10);
        x.noCases();
        x.number(11);
        x.name(1);
        x.number(12);
        x.function(0, PART);
        x.number(13);
        x.noCases();
        x.match(PART_OF_MATCH, CASES_OF_MATCH);
        x.number(14);
        x.addClass(0, -1);
        x.addMethod(0, 0, BODY);
        x.make(0);
        x.send(10, 0);
        x.number(15);
        x.run(SENDS);
        x.write('i');
        x.write('n');
        x.write('t');
    }

    private static void oneLess(Rowan x) {
        some(x);
        for (int i = TERMS; i < 79; i++) {
            x.number(i);
        }
    }

    private static void full(Rowan x) {
        oneLess(x);
        x.number(79);
    }

    /** Cases at the first and at the last index. */
    private static void casesAround(Rowan x) {
        x.noCases();
        x.number(1);
        x.noCases();
    }

    private static final Probe.Setup SOME = RefusalTest::some;
    private static final Probe.Setup ONE_LESS = RefusalTest::oneLess;
    private static final Probe.Setup FULL = RefusalTest::full;
    private static final Probe.Setup CASES_AROUND = RefusalTest::casesAround;

    // ---- Checks ----

    private static void check(boolean isRight, String what) {
        if (isRight) {
            right++;
        } else {
            wrong++;
            System.out.println(what);
        }
    }

    private static String stateOf(Probe.Setup setup) {
        return STATES.computeIfAbsent(setup, Probe::stateOf);
    }

    private static Object answerOf(Rowan x, Asking asking) {
        return Probe.answerOf(() -> asking.ask(x));
    }

    private static void refused(String what, Probe.Setup setup, Class<?> due, Asking asking) {
        SEEN.add(what.substring("promise ".length(), what.indexOf(',')) + " " + due.getSimpleName());
        Rowan x = new Rowan();
        setup.on(x);
        Object got = answerOf(x, asking);
        check(due.equals(got), what + ": " + got + ", due is " + due);
        String behind = Probe.stateOf(y -> {
            setup.on(y);
            answerOf(y, asking);
        });
        check(behind.equals(stateOf(setup)), what + ": something has changed behind it");
    }

    private static void answered(String what, Probe.Setup setup, Object due, Asking asking) {
        Rowan x = new Rowan();
        setup.on(x);
        Object got = answerOf(x, asking);
        check(due.equals(got), what + ": " + got + ", due is " + due);
    }

    // ---- Makers: promises 2 to 17, 21 and 22 ----

    private static String told(Maker maker, int[] arguments) {
        StringBuilder text = new StringBuilder("promise " + maker.promise + ", " + maker.name + "(");
        for (int i = 0; i < arguments.length; i++) {
            text.append(i == 0 ? "" : ", ").append(arguments[i]);
        }
        return text + ")";
    }

    private static int[] goodOf(Maker maker, int[] free, int freeCases) {
        int[] good = new int[maker.kinds.length()];
        int terms = 0;
        for (int i = 0; i < good.length; i++) {
            switch (maker.kinds.charAt(i)) {
                case 'T':
                    good[i] = free[terms];
                    terms++;
                    break;
                case 'C':
                    good[i] = freeCases;
                    break;
                default:
                    good[i] = 3 + i;
                    break;
            }
        }
        return good;
    }

    private static int[] but(int[] arguments, int index, int value) {
        int[] changed = arguments.clone();
        changed[index] = value;
        return changed;
    }

    private static void made(Maker maker, Probe.Setup setup, int terms, int[] arguments) {
        answered(told(maker, arguments), setup, terms, x -> maker.making.make(x, arguments));
        answered(told(maker, arguments) + " makes one term", setup, terms + 1, x -> {
            maker.making.make(x, arguments);
            return x.terms();
        });
    }

    private static void refusedMaker(Maker maker, String why, Probe.Setup setup, Class<?> due, int[] arguments) {
        refused(told(maker, arguments) + " " + why, setup, due, x -> maker.making.make(x, arguments));
    }

    private static int[] insideOf(char kind) {
        switch (kind) {
            case 'N':
                return new int[] {0, 7};
            case 'L':
                return new int[] {0, 9};
            case 'S':
                return new int[] {0, 1, 512, 1023};
            case 'I':
                return new int[] {MIN, -1, 0, 1, MAX};
            case 'T':
                return FREE;
            default:
                return new int[] {FREE_CASES};
        }
    }

    private static int[] outsideOf(char kind) {
        switch (kind) {
            case 'N':
                return new int[] {-1, 8, MIN, MAX};
            case 'L':
                return new int[] {-1, 10, MIN, MAX};
            case 'S':
                return new int[] {-1, 1024, MIN, MAX};
            case 'T':
                return new int[] {-1, TERMS, 79, 80, MIN, MAX, FREE_CASES, CASES_OF_MATCH};
            case 'C':
                return new int[] {-1, TERMS, 79, 80, MIN, MAX, 0, PART};
            default:
                return new int[0];
        }
    }

    private static int[] partsFor(char kind) {
        return kind == 'T' ? new int[] {PART, PART_OF_MATCH, BODY}
                : kind == 'C' ? new int[] {CASES_OF_MATCH} : new int[0];
    }

    private static void edges(Maker maker) {
        int[] good = goodOf(maker, FREE, FREE_CASES);
        made(maker, SOME, TERMS, good);
        made(maker, ONE_LESS, 79, good);
        refusedMaker(maker, "when there are 80 terms", FULL, STATE, good);
        for (int i = 0; i < good.length; i++) {
            char kind = maker.kinds.charAt(i);
            for (int value : insideOf(kind)) {
                made(maker, SOME, TERMS, swapped(good, i, value, kind));
            }
            for (int value : outsideOf(kind)) {
                refusedMaker(maker, "out of range", SOME, kind == 'T' || kind == 'C' ? INDEX : ARGUMENT,
                        but(good, i, value));
            }
            for (int value : partsFor(kind)) {
                refusedMaker(maker, "of a part", SOME, UNSUPPORTED, but(good, i, value));
            }
            for (int k = 0; k < i && kind == 'T'; k++) {
                if (maker.kinds.charAt(k) == 'T') {
                    refusedMaker(maker, "of the same twice", SOME, UNSUPPORTED, but(good, i, good[k]));
                }
            }
        }
    }

    /** A term that stands for another part already changes its place with this one. */
    private static int[] swapped(int[] good, int index, int value, char kind) {
        int[] changed = but(good, index, value);
        for (int i = 0; i < good.length && kind == 'T'; i++) {
            if (i != index && good[i] == value) {
                changed[i] = good[index];
            }
        }
        return changed;
    }

    private static void casesAtTheEdges() {
        int[] free = {1};
        for (Maker maker : MAKERS) {
            int cases = maker.kinds.indexOf('C');
            if (cases >= 0) {
                made(maker, CASES_AROUND, 3, goodOf(maker, free, 0));
                made(maker, CASES_AROUND, 3, goodOf(maker, free, 2));
                refusedMaker(maker, "out of range", CASES_AROUND, INDEX, goodOf(maker, free, 3));
            }
        }
    }

    /** Wrong arguments with one another, and with 80 terms: what is listed first is thrown. */
    private static void together(Maker maker) {
        List<int[]> all = new ArrayList<>();
        all.add(goodOf(maker, FREE, FREE_CASES));
        for (int i = 0; i < maker.kinds.length(); i++) {
            List<int[]> more = new ArrayList<>();
            for (int[] arguments : all) {
                for (int value : wrongsOf(maker.kinds.charAt(i))) {
                    more.add(but(arguments, i, value));
                }
            }
            all.addAll(more);
        }
        for (int[] arguments : all) {
            List<Class<?>> due = whyNot(maker, arguments);
            if (!due.isEmpty()) {
                refusedMaker(maker, "with more wrong ones", SOME, due.get(0), arguments);
                refusedMaker(maker, "with more wrong ones and 80 terms", FULL, due.get(0), arguments);
            }
        }
    }

    private static int[] wrongsOf(char kind) {
        switch (kind) {
            case 'N':
                return new int[] {8};
            case 'L':
                return new int[] {10};
            case 'S':
                return new int[] {1024};
            case 'T':
                return new int[] {80, FREE_CASES, PART, FREE[0]};
            case 'C':
                return new int[] {80, 2, CASES_OF_MATCH};
            default:
                return new int[0];
        }
    }

    private static boolean isOneOf(int value, int[] values) {
        for (int each : values) {
            if (each == value) {
                return true;
            }
        }
        return false;
    }

    /** Which exceptions apply, in the order in which all makers list them. */
    private static List<Class<?>> whyNot(Maker maker, int[] a) {
        boolean isArgument = false;
        boolean isIndex = false;
        boolean isUnsupported = false;
        for (int i = 0; i < a.length; i++) {
            char kind = maker.kinds.charAt(i);
            boolean isTerm = kind == 'T' || kind == 'C';
            isArgument |= !isTerm && isOneOf(a[i], wrongsOf(kind));
            isIndex |= kind == 'T' && (a[i] == 80 || a[i] == FREE_CASES);
            isIndex |= kind == 'C' && (a[i] == 80 || a[i] == 2);
            isUnsupported |= isTerm && (a[i] == PART || a[i] == CASES_OF_MATCH);
            for (int k = 0; k < i; k++) {
                char other = maker.kinds.charAt(k);
                isUnsupported |= isTerm && (other == 'T' || other == 'C') && a[k] == a[i];
            }
        }
        return isArgument ? List.of(ARGUMENT) : isIndex ? List.of(INDEX) : isUnsupported ? List.of(UNSUPPORTED) : NONE;
    }

    // ---- Classes: promises 18 to 20, 34 and 35 ----

    /** Class 0 is a parent, of 1; of 2 an object is made; 3 is free but for label 0; 4 has no methods. */
    private static void classes(Rowan x) {
        some(x);
        x.addClass(7, 0);
        x.addClass(1, -1);
        x.addClass(2, -1);
        x.addClass(3, -1);
        x.make(2);
        x.number(0);
        x.addMethod(3, 0, 14);
        x.make(2);
        x.variant(0, 15);
        x.make(0);
        x.caseFor(1, 1, 17, FREE_CASES);
        x.number(0);
        x.match(19, 18);
    }

    private static final int IN_THREE = 14;
    private static final int MAKES_TWO = 16;
    private static final int MAKES_ZERO = 20;
    private static final Probe.Setup CLASSES = RefusalTest::classes;

    private static void eightClasses(Rowan x) {
        classes(x);
        for (int i = 5; i < 8; i++) {
            x.addClass(0, -1);
        }
    }

    private static final Probe.Setup EIGHT_CLASSES = RefusalTest::eightClasses;

    private static void addClasses() {
        String call = "promise 18, addClass ";
        for (int name : new int[] {0, 7}) {
            answered(call + name, CLASSES, 5, x -> x.addClass(name, -1));
        }
        for (int parent : new int[] {-1, 0, 1, 2, 4}) {
            answered(call + "of " + parent, CLASSES, 5, x -> x.addClass(0, parent));
        }
        for (int name : new int[] {-1, 8, MIN, MAX}) {
            refused(call + name, CLASSES, ARGUMENT, x -> x.addClass(name, -1));
            refused(call + name + " and parent 5", CLASSES, ARGUMENT, x -> x.addClass(name, 5));
            refused(call + name + " with 8 classes", EIGHT_CLASSES, ARGUMENT, x -> x.addClass(name, -1));
            refused(call + name + " and parent -2 with 8 classes", EIGHT_CLASSES, ARGUMENT, x -> x.addClass(name, -2));
        }
        for (int parent : new int[] {-2, 5, 8, MIN, MAX}) {
            refused(call + "of " + parent, CLASSES, ELEMENT, x -> x.addClass(0, parent));
        }
        for (int parent : new int[] {-2, 8, MIN, MAX}) {
            refused(call + "of " + parent + " with 8 classes", EIGHT_CLASSES, ELEMENT, x -> x.addClass(7, parent));
        }
        refused(call + "with 8 classes", EIGHT_CLASSES, STATE, x -> x.addClass(0, -1));
        refused(call + "of 4 with 8 classes", EIGHT_CLASSES, STATE, x -> x.addClass(0, 4));
        answered(call + "the eighth", EIGHT_CLASSES, 0, x -> x.methods(7));
        answered(call + "the first, of itself", y -> y.number(0), ELEMENT, x -> x.addClass(0, 0));
    }

    private static void addMethods() {
        String call = "promise 19, addMethod ";
        for (int label : new int[] {1, 9}) {
            answered(call + label, CLASSES, 2, x -> x.addMethod(3, label, 0));
        }
        answered(call + "0 of a class without methods", CLASSES, 1, x -> x.addMethod(4, 0, 0));
        answered(call + "with the last term", CLASSES, 1, x -> x.addMethod(4, 0, MAKES_ZERO));
        answered(call + "of a class that makes lower ones", CLASSES, 1, x -> x.addMethod(4, 0, MAKES_TWO));
        answered(call + "of the class behind the one made", CLASSES, 2, x -> x.addMethod(3, 1, MAKES_TWO));
        answered(call + "of the heir", CLASSES, 1, x -> x.addMethod(1, 0, 0));
        answered(call + "of the heir for another label", CLASSES, 1, x -> x.addMethod(1, 9, 0));
        answered(call + "that makes the parent", CLASSES, 1, x -> x.addMethod(1, 0, MAKES_ZERO));
        int[] classes = {-1, 5, 8, MIN, MAX};
        int[] labels = {-1, 10, MIN, MAX};
        int[] bodies = {-1, 21, 80, MIN, MAX, FREE_CASES, CASES_OF_MATCH};
        int[] parts = {PART, PART_OF_MATCH, BODY, IN_THREE, 15};
        for (int clazz : classes) {
            refused(call + "of " + clazz, CLASSES, ELEMENT, x -> x.addMethod(clazz, 0, 0));
        }
        for (int label : labels) {
            refused(call + "for " + label, CLASSES, ARGUMENT, x -> x.addMethod(4, label, 0));
        }
        for (int body : bodies) {
            refused(call + "with " + body, CLASSES, INDEX, x -> x.addMethod(4, 0, body));
        }
        for (int body : parts) {
            refused(call + "with the part " + body, CLASSES, UNSUPPORTED, x -> x.addMethod(4, 0, body));
        }
        // A method for the label, a parent, and a class of which an object is made.
        refused(call + "again", CLASSES, STATE, x -> x.addMethod(3, 0, 0));
        refused(call + "of a parent", CLASSES, STATE, x -> x.addMethod(0, 1, 0));
        refused(call + "again, of a parent", CLASSES, STATE, x -> x.addMethod(0, 0, 0));
        refused(call + "of a made one", CLASSES, STATE, x -> x.addMethod(2, 0, 0));
        refused(call + "that makes itself", CLASSES, UNSUPPORTED, x -> x.addMethod(2, 0, MAKES_TWO));
        refused(call + "that makes a higher one", CLASSES, UNSUPPORTED, x -> x.addMethod(1, 1, MAKES_TWO));
        refused(call + "that makes itself inside a case", CLASSES, UNSUPPORTED, x -> x.addMethod(0, 1, MAKES_ZERO));
        addMethodsTogether(call);
    }

    private static void addMethodsTogether(String call) {
        int[] classes = {-1, 5, 0, 2, 3, 4};
        int[] labels = {-1, 10, 0, 1};
        int[] bodies = {-1, 21, FREE_CASES, PART, BODY, MAKES_TWO, 0};
        for (int clazz : classes) {
            for (int label : labels) {
                for (int body : bodies) {
                    boolean isClass = clazz >= 0 && clazz < 5;
                    boolean isLabel = label >= 0 && label < 10;
                    boolean isTerm = body >= 0 && body < 21 && body != FREE_CASES;
                    boolean isBody = body == 0 || body == MAKES_TWO && clazz > 2;
                    boolean isOpen = clazz == 4 || clazz == 3 && label != 0;
                    Class<?> due = !isClass ? ELEMENT : !isLabel ? ARGUMENT : !isTerm ? INDEX
                            : !isBody ? UNSUPPORTED : !isOpen ? STATE : null;
                    if (due != null) {
                        refused(call + clazz + ", " + label + ", " + body, CLASSES, due,
                                x -> x.addMethod(clazz, label, body));
                    }
                }
            }
        }
    }

    private static void makeObjects() {
        String call = "promise 20, make ";
        for (int clazz = 0; clazz < 5; clazz++) {
            int each = clazz;
            answered(call + each, CLASSES, 21, x -> x.make(each));
        }
        answered(call + "7", EIGHT_CLASSES, 21, x -> x.make(7));
        answered(call + "as the 80th term", ONE_LESS, 79, x -> x.make(0));
        refused(call + "with 80 terms", FULL, STATE, x -> x.make(0));
        for (int clazz : new int[] {-1, 5, 8, MIN, MAX}) {
            refused(call + clazz, CLASSES, ELEMENT, x -> x.make(clazz));
        }
        for (int clazz : new int[] {-1, 1, 8, MIN, MAX}) {
            refused(call + clazz + " with 80 terms", FULL, ELEMENT, x -> x.make(clazz));
        }
    }

    private static void askClasses() {
        answered("promise 34, methods of one without", CLASSES, 0, x -> x.methods(4));
        answered("promise 34, methods of the heir of one", CLASSES, 1, x -> x.methods(1));
        for (int clazz : new int[] {-1, 5, 8, MIN, MAX}) {
            refused("promise 34, methods " + clazz, CLASSES, ELEMENT, x -> x.methods(clazz));
            refused("promise 35, methodOf " + clazz, CLASSES, ELEMENT, x -> x.methodOf(clazz, 0));
            refused("promise 35, methodOf 10 of " + clazz, CLASSES, ELEMENT, x -> x.methodOf(clazz, 10));
        }
        refused("promise 34, methods 8 of 8", EIGHT_CLASSES, ELEMENT, x -> x.methods(8));
        answered("promise 35, methodOf the parent", CLASSES, 0, x -> x.methodOf(1, 0));
        refused("promise 35, methodOf no such method", CLASSES, ELEMENT, x -> x.methodOf(1, 1));
        refused("promise 35, methodOf no such method", CLASSES, ELEMENT, x -> x.methodOf(1, 9));
        refused("promise 35, methodOf one without", CLASSES, ELEMENT, x -> x.methodOf(4, 0));
        for (int label : new int[] {-1, 10, MIN, MAX}) {
            refused("promise 35, methodOf for " + label, CLASSES, ARGUMENT, x -> x.methodOf(1, label));
        }
    }

    // ---- Questions about terms: promises 24 to 29, 33, 36, 37, 43 and 44 ----

    private interface OfTerm {
        Object ask(Rowan x, int term);
    }

    private record Question(int promise, String name, boolean needsType, OfTerm asking) {
    }

    private static final List<Question> QUESTIONS = List.of(
            new Question(24, "error", false, (x, term) -> x.error(term)),
            new Question(25, "errorAt", false, (x, term) -> x.errorAt(term)),
            new Question(26, "typeLength", true, (x, term) -> x.typeLength(term)),
            new Question(27, "typeAt 0", true, (x, term) -> x.typeAt(term, 0)),
            new Question(27, "typeAt -1", true, (x, term) -> x.typeAt(term, -1)),
            new Question(28, "variables", true, (x, term) -> x.variables(term)),
            new Question(29, "isGeneral first", true, (x, term) -> x.isGeneral(term, 0)),
            new Question(29, "isGeneral second", true, (x, term) -> x.isGeneral(0, term)),
            new Question(29, "isGeneral both", true, (x, term) -> x.isGeneral(term, term)),
            new Question(33, "accepts", true, (x, term) -> x.accepts(term)),
            new Question(36, "run", true, (x, term) -> x.run(term)),
            new Question(37, "runBySearch", true, (x, term) -> x.runBySearch(term)),
            new Question(43, "hits", false, (x, term) -> x.hits(term)),
            new Question(44, "misses", false, (x, term) -> x.misses(term)));

    /** The text is no type here. */
    private static void wrongText(Rowan x) {
        some(x);
        x.write('t');
    }

    private static final Probe.Setup WRONG_TEXT = RefusalTest::wrongText;

    private static void askTerms() {
        for (Question question : QUESTIONS) {
            String what = "promise " + question.promise + ", " + question.name + " of ";
            for (int term : new int[] {-1, TERMS, 79, 80, MIN, MAX, FREE_CASES, CASES_OF_MATCH}) {
                refused(what + term, SOME, INDEX, x -> question.asking.ask(x, term));
                refused(what + term, WRONG_TEXT, INDEX, x -> question.asking.ask(x, term));
            }
            for (int term : new int[] {-1, 80, MAX, FREE_CASES}) {
                refused(what + term + " of 80", FULL, INDEX, x -> question.asking.ask(x, term));
            }
            if (question.needsType) {
                for (int term : new int[] {UNTYPED, NOT_THE_SAME}) {
                    refused(what + term, SOME, STATE, x -> question.asking.ask(x, term));
                    refused(what + term, WRONG_TEXT, STATE, x -> question.asking.ask(x, term));
                }
            }
        }
        for (int term : new int[] {0, 2, PART, BODY, 12, 79}) {
            refused("promise 25, errorAt " + term, FULL, ELEMENT, x -> x.errorAt(term));
            refused("promise 43, hits " + term, FULL, ELEMENT, x -> x.hits(term));
            refused("promise 44, misses " + term, FULL, ELEMENT, x -> x.misses(term));
        }
        refused("promise 43, hits of an untyped term", SOME, ELEMENT, x -> x.hits(UNTYPED));
        answered("promise 24, error of the last of 80", FULL, '-', x -> x.error(79));
        answered("promise 24, error of the first", FULL, '-', x -> x.error(0));
        answered("promise 24, error of a part", SOME, '-', x -> x.error(PART));
        answered("promise 25, errorAt of an untyped name", SOME, UNTYPED, x -> x.errorAt(UNTYPED));
        answered("promise 26, typeLength of the last of 80", FULL, 3, x -> x.typeLength(79));
        answered("promise 36, run of the last of 80", FULL, 1, x -> x.run(79));
    }

    private static void askMore() {
        for (int index : new int[] {-1, 3, MIN, MAX}) {
            refused("promise 27, typeAt " + index, SOME, ELEMENT, x -> x.typeAt(0, index));
        }
        answered("promise 27, typeAt 0", SOME, 'i', x -> x.typeAt(0, 0));
        answered("promise 27, typeAt 2", SOME, 't', x -> x.typeAt(0, 2));
        refused("promise 29, isGeneral of no such term and one without a type", SOME, INDEX,
                x -> x.isGeneral(TERMS, UNTYPED));
        refused("promise 29, isGeneral of a term without a type and no such term", SOME, INDEX,
                x -> x.isGeneral(UNTYPED, TERMS));
        refused("promise 29, isGeneral of a term without a type and cases", SOME, INDEX,
                x -> x.isGeneral(NOT_THE_SAME, FREE_CASES));
        refused("promise 33, accepts with no type", WRONG_TEXT, UNSUPPORTED, x -> x.accepts(0));
        answered("promise 33, accepts", SOME, true, x -> x.accepts(0));
    }

    // ---- Texts: promise 30 ----

    private static final String SIGNS = "0123456789abcdefghijklmnopqrstuvwxyz :,|'-><(){}[]";

    /** Two hundred characters, of which all but the last are a type. */
    private static void writtenFull(Rowan x) {
        x.number(1);
        for (int i = 0; i < 28; i++) {
            for (char sign : "int -> ".toCharArray()) {
                x.write(sign);
            }
        }
        for (char sign : "'100".toCharArray()) {
            x.write(sign);
        }
    }

    private static void writing() {
        Probe.Setup full = RefusalTest::writtenFull;
        Rowan last = new Rowan();
        for (int i = 0; i < 0x10000; i++) {
            char sign = (char) i;
            last = i % 200 == 0 ? new Rowan() : last;
            Object got = answerOf(last, x -> x.write(sign));
            boolean isSign = SIGNS.indexOf(sign) >= 0;
            check(isSign ? got instanceof Integer : ARGUMENT.equals(got), "promise 30, write " + i + ": " + got);
        }
        for (char sign : new char[] {'A', '/', ';', '.', '`', '~', '"', '\n', '\\', '_', '+', '=', '*', 0, 0xffff}) {
            refused("promise 30, write " + (int) sign, SOME, ARGUMENT, x -> x.write(sign));
            refused("promise 30, write " + (int) sign + " behind 200", full, ARGUMENT, x -> x.write(sign));
        }
        for (char sign : SIGNS.toCharArray()) {
            refused("promise 30, write " + sign + " behind 200", full, STATE, x -> x.write(sign));
        }
    }

    // ---- Results: promises 39 to 42 and 45 to 47 ----

    private static void ranNumber(Rowan x) {
        x.run(x.number(5));
    }

    private static void ranFunction(Rowan x) {
        x.run(x.function(0, x.name(0)));
    }

    private static void ranRecord(Rowan x) {
        x.run(x.with(4, x.number(5), x.with(5, x.record(), x.record())));
    }

    private static void ranVariant(Rowan x) {
        x.run(x.variant(4, x.number(5)));
    }

    private static void ranObject(Rowan x) {
        x.addClass(0, -1);
        x.run(x.make(0));
    }

    private static void ranTooDeep(Rowan x) {
        x.addClass(0, -1);
        x.addMethod(0, 0, x.send(x.name(0), 0));
        x.run(x.send(x.make(0), 0));
    }

    /** A method that runs itself twice within a choice, so that no more than some thirty terms stand in one another. */
    private static void ranTooLong(Rowan x) {
        x.addClass(0, -1);
        int more = x.apply(x.send(x.name(0), 0), x.sum(x.name(1), x.number(-1)));
        int twice = x.sum(more, x.apply(x.send(x.name(0), 0), x.sum(x.name(1), x.number(-1))));
        x.addMethod(0, 0, x.function(1, x.choice(x.name(1), twice, x.number(1))));
        x.run(x.apply(x.send(x.make(0), 0), x.number(20)));
    }

    private static void results() {
        List<Probe.Setup> setups = List.of(Rowan::terms, RefusalTest::ranNumber, RefusalTest::ranFunction,
                RefusalTest::ranRecord, RefusalTest::ranVariant, RefusalTest::ranObject, RefusalTest::ranTooDeep,
                RefusalTest::ranTooLong);
        String outcomes = "-nfrvodl";
        for (int i = 0; i < setups.size(); i++) {
            Probe.Setup setup = setups.get(i);
            char outcome = outcomes.charAt(i);
            answered("promise 38, outcome", setup, outcome, x -> x.outcome());
            askResult(39, "result", setup, outcome == 'n', 5, x -> x.result());
            askResult(40, "resultLabel", setup, outcome == 'v', 4, x -> x.resultLabel());
            askResult(42, "resultClass", setup, outcome == 'o', 0, x -> x.resultClass());
            for (int k = 0; k < 10; k++) {
                int label = k;
                askResult(41, "resultField " + k, setup, outcome == 'r' && k == 4, 5, x -> x.resultField(label));
            }
            for (int label : new int[] {-1, 10, MIN, MAX}) {
                refused("promise 41, resultField " + label, setup, ARGUMENT, x -> x.resultField(label));
            }
        }
    }

    private static void askResult(int promise, String name, Probe.Setup setup, boolean isThere, int due, Asking asking) {
        String what = "promise " + promise + ", " + name + " of " + outcomeOf(setup);
        if (isThere) {
            answered(what, setup, due, asking);
        } else {
            refused(what, setup, ELEMENT, asking);
        }
    }

    private static char outcomeOf(Probe.Setup setup) {
        Rowan x = new Rowan();
        setup.on(x);
        return x.outcome();
    }

    private static void onlyPartsAndErrors(Rowan x) {
        x.name(0);
        x.noCases();
        x.addClass(0, -1);
        x.addMethod(0, 0, x.number(1));
        x.function(1, x.name(2));
        x.runBySearch(2);
    }

    private static void shares() {
        List<Probe.Setup> setups = List.of(Rowan::terms, RefusalTest::onlyPartsAndErrors);
        for (Probe.Setup setup : setups) {
            refused("promise 45, hitShare of none", setup, ARITHMETIC, x -> x.hitShare());
            refused("promise 46, hitShareBits of none", setup, ARITHMETIC, x -> x.hitShareBits());
            refused("promise 47, meanLength of none", setup, ARITHMETIC, x -> x.meanLength());
        }
        answered("promise 45, hitShare of a miss", SOME, 0f, x -> x.hitShare());
        answered("promise 46, hitShareBits of a miss", SOME, 0, x -> x.hitShareBits());
    }

    // ---- All that the document lists ----

    /** Each exception that a promise lists has been due here, and no other one. */
    private static void all() throws IOException {
        Set<String> listed = new TreeSet<>();
        String promise = "";
        for (String line : Files.readAllLines(Path.of("../shared/DOC.md"))) {
            if (line.startsWith("## Promise ")) {
                promise = line.substring("## Promise ".length(), line.indexOf(':'));
            } else if (line.startsWith("Throws `")) {
                listed.add(promise + " " + line.split("`")[1]);
            }
        }
        check(listed.equals(SEEN), "listed are " + listed + ", seen are " + SEEN);
    }

    public static void main(String[] arguments) throws IOException {
        for (Maker maker : MAKERS) {
            edges(maker);
            together(maker);
        }
        casesAtTheEdges();
        addClasses();
        addMethods();
        makeObjects();
        askClasses();
        askTerms();
        askMore();
        writing();
        results();
        shares();
        all();
        System.out.println("refusals: " + right + " right, " + wrong + " wrong");
        System.exit(wrong == 0 ? 0 : 1);
    }
}
