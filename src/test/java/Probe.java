/**
 * Asks objects of Rowan all that can be asked, so that two of them can be compared. Each phase has an object
 * of its own, so that none is asked more than the 512 calls for which the document speaks.
 */
final class Probe {

    interface Setup {
        void on(Rowan x);
    }

    interface Call {
        Object answer();
    }

    /** What is left of 512 calls behind a setup of up to 222. */
    private static final int CALLS = 290;
    private static final int PHASES = 7;

    private final StringBuilder answers = new StringBuilder();
    private Rowan x = new Rowan();
    private int calls = 0;

    static Object answerOf(Call call) {
        try {
            return call.answer();
        } catch (RuntimeException error) {
            return error.getClass();
        }
    }

    /** All answers of new objects with this setup behind them. */
    static String stateOf(Setup setup) {
        Probe probe = new Probe();
        for (int phase = 0; phase < PHASES; phase++) {
            probe.x = new Rowan();
            probe.calls = 0;
            setup.on(probe.x);
            probe.answers.append("phase ").append(phase).append('\n');
            probe.ask(phase);
        }
        return probe.answers.toString();
    }

    private Object ask(Call call) {
        if (calls >= CALLS) {
            return "";
        }
        calls++;
        Object answer = answerOf(call);
        answers.append(answer).append('\n');
        return answer;
    }

    private void ask(int phase) {
        switch (phase) {
            case 0:
                askErrors();
                break;
            case 1:
                askTypes();
                break;
            case 2:
                askTexts();
                break;
            case 3:
                askResults();
                break;
            case 4:
                askRuns();
                break;
            case 5:
                askForParts();
                break;
            default:
                askForMore();
                break;
        }
    }

    private void askErrors() {
        ask(() -> x.terms());
        for (int i = -1; i <= x.terms(); i++) {
            int term = i;
            ask(() -> x.error(term));
            ask(() -> x.errorAt(term));
        }
    }

    private void askTypes() {
        for (int i = 0; i < x.terms(); i++) {
            int term = i;
            ask(() -> x.typeLength(term));
            ask(() -> x.variables(term));
        }
    }

    private void askTexts() {
        for (int i = 0; i < x.terms(); i++) {
            int term = i;
            ask(() -> x.accepts(term));
            if (ask(() -> x.error(term)).equals('-')) {
                int length = x.typeLength(term);
                calls++;
                for (int k = 0; k < length; k++) {
                    int index = k;
                    ask(() -> x.typeAt(term, index));
                }
            }
        }
    }

    private void askResults() {
        askForOutcome();
        ask(() -> x.hitShare());
        ask(() -> x.hitShareBits());
        ask(() -> x.meanLength());
        for (int i = 0; i < 8; i++) {
            int clazz = i;
            ask(() -> x.methods(clazz));
            for (int k = 0; k < 10; k++) {
                int label = k;
                ask(() -> x.methodOf(clazz, label));
            }
        }
        for (int i = 0; i < x.terms(); i++) {
            int term = i;
            ask(() -> x.hits(term));
            ask(() -> x.misses(term));
        }
        ask(() -> x.isType());
        ask(() -> x.isSound());
    }

    private void askForOutcome() {
        ask(() -> x.outcome());
        ask(() -> x.result());
        ask(() -> x.resultLabel());
        ask(() -> x.resultClass());
        for (int i = 0; i < 10; i++) {
            int label = i;
            ask(() -> x.resultField(label));
        }
    }

    /** What the caches keep shows in the hits and misses of further runs. */
    private void askRuns() {
        for (int i = 0; i < x.terms(); i++) {
            int term = i;
            ask(() -> x.run(term));
            ask(() -> x.outcome());
            ask(() -> x.hits(term));
            ask(() -> x.misses(term));
        }
        ask(() -> x.hitShareBits());
        for (int i = 0; i < x.terms(); i++) {
            int term = i;
            ask(() -> x.runBySearch(term));
        }
    }

    /** Which terms and cases are parts, and how many terms more there can be. */
    private void askForParts() {
        int terms = x.terms();
        for (int i = 0; i < terms; i++) {
            int term = i;
            ask(() -> x.function(0, term));
        }
        for (int i = 0; i < terms; i++) {
            int cases = i;
            Object free = ask(() -> x.number(cases));
            ask(() -> x.match(free instanceof Integer ? (Integer) free : 0, cases));
        }
        for (int i = 0; i < 80; i++) {
            ask(() -> x.number(0));
        }
    }

    /** Which classes get more methods or heirs, and what more can be written. */
    private void askForMore() {
        ask(() -> x.write('i'));
        ask(() -> x.isType());
        ask(() -> x.write('n'));
        ask(() -> x.write('t'));
        ask(() -> x.isType());
        ask(() -> x.erase());
        for (int i = 0; i < 8; i++) {
            int clazz = i;
            for (int k = 0; k < 10; k++) {
                int label = k;
                ask(() -> x.addMethod(clazz, label, x.terms() - 1));
                ask(() -> x.number(label));
            }
            Object made = ask(() -> x.make(clazz));
            ask(() -> x.typeLength(made instanceof Integer ? (Integer) made : 0));
        }
        for (int i = 0; i < 9; i++) {
            int parent = i - 1;
            ask(() -> x.addClass(0, parent));
        }
    }
}
