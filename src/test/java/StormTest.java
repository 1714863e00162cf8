import java.lang.reflect.InvocationTargetException;
import java.lang.reflect.Method;
import java.util.ArrayList;
import java.util.List;
import java.util.Map;
import java.util.TreeMap;

/**
 * Calls of everything with everything, far more than 512 for some objects: each call answers, or throws, by a
 * throw statement of Rowan, one of the exceptions that the document lists for it. The calls are always the same.
 */
public final class StormTest {

    /** What each argument is: I a number, N a name, L a label, T a term, K a class, S labels, W a sign. */
    private static final Map<String, String> KINDS = new TreeMap<>();

    private static void kinds(String kinds, String... names) {
        for (String name : names) {
            KINDS.put(name, kinds);
        }
    }

    static {
        kinds("", "record", "noCases", "terms", "erase", "isType", "outcome", "result", "resultLabel", "resultClass",
                "hitShare", "hitShareBits", "meanLength", "isSound");
        kinds("I", "number");
        kinds("N", "name");
        kinds("L", "resultField");
        kinds("T", "error", "errorAt", "typeLength", "variables", "accepts", "run", "runBySearch", "hits", "misses");
        kinds("K", "make", "methods");
        kinds("W", "write");
        kinds("NT", "function", "otherCases");
        kinds("TT", "apply", "sum", "match", "isGeneral");
        kinds("TL", "get", "without", "send");
        kinds("LT", "variant");
        kinds("TS", "narrow");
        kinds("TI", "typeAt");
        kinds("NK", "addClass");
        kinds("KL", "methodOf");
        kinds("NTT", "let");
        kinds("TTT", "choice");
        kinds("LTT", "with");
        kinds("KLT", "addMethod");
        kinds("LNTT", "caseFor");
    }

    private static final int[] FAR = {Integer.MIN_VALUE, -2, -1, 8, 10, 79, 80, 1024, Integer.MAX_VALUE};
    private static final String SIGNS = "0123456789int :,|'-><(){}[]A\u00e9\u0100\uffff";

    private static final List<Method> METHODS = new ArrayList<>();
    private static int wrong = 0;
    private static int answered = 0;
    private static int refused = 0;

    private final Rowan rowan = new Rowan();
    private final boolean isLong;
    private final boolean isClean;
    private long seed;

    private StormTest(int number) {
        seed = number * 7919L + 17;
        isLong = number % 20 == 0;
        isClean = number % 2 == 0;
        for (int i = 0; i < 5; i++) {
            chance(2);
        }
    }

    private int chance(int bound) {
        seed = seed * 6364136223846793005L + 1442695040888963407L;
        return (int) ((seed >>> 33) % bound);
    }

    private Object argumentOf(char kind) {
        if (kind == 'W') {
            return SIGNS.charAt(chance(SIGNS.length()));
        }
        if (chance(isClean ? 60 : 8) == 0) {
            return FAR[chance(FAR.length)];
        }
        switch (kind) {
            case 'N':
                return chance(3);
            case 'L':
                return chance(3);
            case 'K':
                return chance(4) - 1;
            case 'T':
                return chance(3) == 0 ? chance(80) : Math.max(0, rowan.terms() - 1 - chance(4));
            case 'S':
                return chance(8);
            default:
                return chance(40) - 10;
        }
    }

    private void play() throws IllegalAccessException {
        for (int i = 0; i < (isLong ? 5000 : 512) && wrong == 0; i++) {
            Method method = METHODS.get(chance(METHODS.size()));
            // Most terms are made ahead of the questions about them.
            if (i < 150 && method.getReturnType() != int.class) {
                method = METHODS.get(chance(METHODS.size()));
            }
            String kinds = KINDS.get(method.getName());
            Object[] arguments = new Object[kinds.length()];
            for (int k = 0; k < arguments.length; k++) {
                arguments[k] = argumentOf(kinds.charAt(k));
            }
            call(method, arguments);
        }
    }

    private void call(Method method, Object[] arguments) throws IllegalAccessException {
        try {
            Object answer = method.invoke(rowan, arguments);
            answered++;
            if (!isRight(method.getName(), answer)) {
                wrong++;
                System.out.println(method.getName() + java.util.Arrays.toString(arguments) + " = " + answer
                        + ", outcome " + rowan.outcome());
            }
        } catch (InvocationTargetException error) {
            Throwable cause = error.getCause();
            refused++;
            if (!isListed(method, cause) || !cause.getStackTrace()[0].getClassName().startsWith("Rowan")
                    || !isThrown(cause)) {
                wrong++;
                System.out.println(method.getName() + java.util.Arrays.toString(arguments) + ": " + cause);
            }
        }
    }

    /** What always holds: each run ends in a way that the document tells, and all is sound. */
    private boolean isRight(String name, Object answer) {
        if (name.startsWith("run")) {
            return "nfrvold".indexOf(rowan.outcome()) >= 0 && (Integer) answer >= 1 && (Integer) answer <= 2000;
        }
        return !name.equals("isSound") || answer.equals(true);
    }

    private static boolean isListed(Method method, Throwable cause) {
        return List.of(method.getExceptionTypes()).contains(cause.getClass());
    }

    /** What the machine throws bears a text of its own, of an index, a length or a divisor. */
    private static boolean isThrown(Throwable cause) {
        String text = cause.getMessage();
        return text != null && !text.matches("(Index|String index|Range|/ by|Cannot|arraycopy).*");
    }

    public static void main(String[] arguments) throws IllegalAccessException {
        for (Method method : Rowan.class.getDeclaredMethods()) {
            if (KINDS.containsKey(method.getName())) {
                METHODS.add(method);
            }
        }
        METHODS.sort((one, other) -> one.getName().compareTo(other.getName()));
        if (METHODS.size() != KINDS.size()) {
            wrong++;
            System.out.println("there are " + METHODS.size() + " calls, due are " + KINDS.size());
        }
        for (int number = 1; number <= 1000 && wrong == 0; number++) {
            new StormTest(number).play();
        }
        System.out.println("storm: " + answered + " answered, " + refused + " refused, " + wrong + " wrong");
        System.exit(wrong == 0 ? 0 : 1);
    }
}
