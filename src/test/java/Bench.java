import java.util.HashSet;
import java.util.NoSuchElementException;
import java.util.Set;

/** What the tests share: an object of Rowan, short ways to make its terms, and checks of what it answers. */
class Bench {

    static final Class<?> ARGUMENT = IllegalArgumentException.class;
    static final Class<?> INDEX = IndexOutOfBoundsException.class;
    static final Class<?> UNSUPPORTED = UnsupportedOperationException.class;
    static final Class<?> STATE = IllegalStateException.class;
    static final Class<?> ELEMENT = NoSuchElementException.class;
    static final Class<?> ARITHMETIC = ArithmeticException.class;

    static final int MIN = Integer.MIN_VALUE;
    static final int MAX = Integer.MAX_VALUE;
    static final String ALL_INTS = "0:int,1:int,2:int,3:int,4:int,5:int,6:int,7:int,8:int,9:int";

    static int promise = 0;
    static Rowan x = new Rowan();

    private static final Set<Integer> TESTED = new HashSet<>();

    private static int wrong = 0;
    private static int right = 0;
    private static String sentence = "";
    private static int checksAhead = 0;

    interface Call {
        Object answer();
    }

    /** Begins the tests of a promise, with a new object. */
    static void promise(int number) {
        promise = number;
        x = new Rowan();
    }

    /** Begins the test of one sentence of the document, with a new object; the one before must have tested something. */
    static void sentence(int number, String text) {
        endSentence();
        sentence = text;
        promise(number);
    }

    private static void endSentence() {
        if (!sentence.isEmpty() && right + wrong == checksAhead) {
            wrong++;
            System.out.println("nothing is tested of: " + sentence);
        }
        checksAhead = right + wrong;
    }

    static void due(Object due, Object got) {
        TESTED.add(promise);
        if (due.equals(got)) {
            right++;
        } else {
            wrong++;
            StackTraceElement[] stack = new Throwable().getStackTrace();
            System.out.println("promise " + promise + (sentence.isEmpty() ? "" : " (" + sentence + ")")
                    + ", line " + stack[1].getLineNumber()
                    + (stack.length > 2 ? " from " + stack[2].getLineNumber() : "") + ": " + got + ", due is " + due);
        }
    }

    static void thrown(Class<?> due, Call call) {
        Object got;
        int terms = x.terms();
        try {
            got = call.answer();
        } catch (RuntimeException error) {
            got = error.getClass();
        }
        due(due, got);
        due(terms, x.terms());
    }

    /** Something has been tested of each promise. */
    static void allPromises() {
        for (int number = 1; number <= 48; number++) {
            if (!TESTED.contains(number)) {
                wrong++;
                System.out.println("nothing is tested of promise " + number);
            }
        }
    }

    /** Tells what was right and wrong, and ends the program. */
    static void finish(String tests) {
        endSentence();
        System.out.println(tests + ": " + right + " right, " + wrong + " wrong");
        System.exit(wrong == 0 ? 0 : 1);
    }

    // ---- Short ways to make and to ask ----

    static int n(int value) {
        return x.number(value);
    }

    static int v(int name) {
        return x.name(name);
    }

    static int fn(int name, int body) {
        return x.function(name, body);
    }

    static int identity() {
        return fn(7, v(7));
    }

    static int pairOf(int name) {
        return x.with(0, v(name), x.with(1, v(name), x.record()));
    }

    static String type(int term) {
        if (x.error(term) != '-') {
            return x.error(term) + "@" + x.errorAt(term);
        }
        StringBuilder text = new StringBuilder();
        for (int i = 0; i < x.typeLength(term); i++) {
            text.append(x.typeAt(term, i));
        }
        return text.toString();
    }

    static String typeAfter(Call call) {
        x = new Rowan();
        return type((Integer) call.answer());
    }

    static String run(int term) {
        int steps = x.run(term);
        String end = end();
        due(steps, x.runBySearch(term));
        due(end, end());
        return end + " in " + steps;
    }

    static String end() {
        switch (x.outcome()) {
            case 'n':
                return "n " + x.result();
            case 'v':
                return "v " + x.resultLabel();
            case 'o':
                return "o " + x.resultClass();
            default:
                return String.valueOf(x.outcome());
        }
    }

    static void text(String text) {
        x.erase();
        for (int i = 0; i < text.length(); i++) {
            x.write(text.charAt(i));
        }
    }

    static boolean isType(String text) {
        text(text);
        return x.isType();
    }

    static boolean accepts(String text, int term) {
        text(text);
        return x.accepts(term);
    }

    static void fillTerms() {
        while (x.terms() < 80) {
            x.number(0);
        }
    }

    // ---- Terms with as many steps as are wanted ----

    /** Class k has a method with 1, 7, 19, 43 .. steps, each with two runs of the one before. */
    static void addBlocks(int count) {
        for (int k = 0; k < count; k++) {
            x.addClass(0, -1);
            x.addMethod(k, 0, k == 0 ? n(1)
                    : x.sum(x.send(x.make(k - 1), 0), x.send(x.make(k - 1), 0)));
        }
    }

    /** A term that runs in just so many steps, built of the blocks. */
    static int termOf(int steps, int blocks) {
        if (steps == 1) {
            return n(0);
        }
        if (steps == 4) {
            return x.get(x.with(0, n(0), x.record()), 0);
        }
        int cost = 1;
        int best = -1;
        for (int k = 0, next = 3; k < blocks && next + 2 <= steps && steps - next - 1 != 2; k++) {
            best = k;
            cost = next;
            next = 2 * next + 3;
        }
        int first = best < 0 ? n(0) : x.send(x.make(best), 0);
        return x.sum(first, termOf(steps - cost - 1, blocks));
    }

    /** Runs 3 terms within one another, two more for each turn, and one more for each sum around. */
    static char outcomeOfDepth(int turns, int sums) {
        x = new Rowan();
        x.addClass(0, -1);
        int rest = x.choice(v(1), x.apply(x.send(v(0), 0), x.sum(v(1), n(-1))), n(1));
        x.addMethod(0, 0, fn(1, rest));
        int term = x.apply(x.send(x.make(0), 0), n(turns));
        for (int i = 0; i < sums; i++) {
            term = x.sum(n(0), term);
        }
        x.run(term);
        char outcome = x.outcome();
        x.runBySearch(term);
        due(outcome, x.outcome());
        return outcome;
    }

    static void bothLimits(int ahead, char due, int steps) {
        x = new Rowan();
        addBlocks(7);
        x.addClass(0, -1);
        x.addMethod(7, 0, x.send(v(0), 0));
        int term = x.sum(termOf(ahead, 7), x.send(x.make(7), 0));
        due(steps, x.run(term));
        due(due, x.outcome());
    }

    /** Functions around a term, each with a variable of its own: two parts more for each. */
    static int functions(int count, int inner) {
        int term = inner;
        for (int i = 0; i < count; i++) {
            term = fn(1, term);
        }
        return term;
    }

    // ---- More terms ----

    /** A record with these labels, the first of them put in first; each has itself as value. */
    static int recordOf(String labels) {
        int record = x.record();
        for (char label : labels.toCharArray()) {
            record = x.with(label - '0', n(label - '0'), record);
        }
        return record;
    }

    /** Cases for these labels, the first of them taken first, with the label as value; then further cases. */
    static int casesFor(String labels, int further) {
        int cases = further;
        for (int i = labels.length() - 1; i >= 0; i--) {
            int label = labels.charAt(i) - '0';
            cases = x.caseFor(label, 1, n(label), cases);
        }
        return cases;
    }

    /** The whole term has this error, at that term. */
    static void wrongAt(char error, int at, int whole) {
        due(error + "@" + at, type(whole));
    }

    /** A class with these methods, for the labels from 0. */
    static int classOf(int name, int parent, int... bodies) {
        int clazz = x.addClass(name, parent);
        for (int label = 0; label < bodies.length; label++) {
            x.addMethod(clazz, label, bodies[label]);
        }
        return clazz;
    }

    /** A variant, with a row variable. */
    static int opened() {
        return x.variant(0, n(1));
    }

    /** An object of a new class that has a method for label 0 only. */
    static int object() {
        classOf(0, -1, n(1));
        return x.make(0);
    }
}
