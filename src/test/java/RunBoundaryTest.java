/** The boundaries of runs, their results and the caches: a test for each sentence of the document that names one. */
public final class RunBoundaryTest extends Bench {

    // ---- Sums and steps ----

    private static void sums() {
        sentence(7, "sums wrap around as ints do");
        int[][] sums = {{MAX, 1, MIN}, {MIN, -1, MAX}, {MAX, MAX, -2}, {MIN, MIN, 0}, {MAX, MIN, -1}, {MAX, 0, MAX},
            {MIN, 0, MIN}, {-1, 1, 0}, {MIN, MAX, -1}, {1 << 30, 1 << 30, MIN}, {65536, 65536, 131072}};
        for (int[] sum : sums) {
            due("n " + sum[2] + " in 3", run(x.sum(n(sum[0]), n(sum[1]))));
        }
        sentence(7, "a sum that wraps around to 0 is 0");
        due("n 3 in 5", run(x.choice(x.sum(n(MIN), n(MIN)), n(2), n(3))));
        due("n 2 in 5", run(x.choice(x.sum(n(MAX), n(MAX)), n(2), n(3))));
    }

    private static void steps() {
        sentence(36, "each term that begins to run is a step");
        due("n 1 in 1", run(n(1)));
        due("f in 1", run(identity()));
        due("n 4 in 4", run(x.apply(identity(), n(4))));
        due("n 9 in 3", run(x.let(0, n(9), v(0))));
        due("n 5 in 3", run(x.sum(n(2), n(3))));
        due("n 2 in 3", run(x.choice(n(1), n(2), x.sum(n(3), n(4)))));
        due("n 7 in 5", run(x.choice(n(0), n(2), x.sum(n(3), n(4)))));
        due("r in 1", run(x.record()));
        due("r in 3", run(recordOf("1")));
        due("n 1 in 4", run(x.get(recordOf("1"), 1)));
        due("r in 4", run(x.without(recordOf("1"), 1)));
        due("v 3 in 2", run(x.variant(3, n(1))));
        classOf(0, -1, n(8));
        due("o 0 in 1", run(x.make(0)));
        due("n 8 in 3", run(x.send(x.make(0), 0)));
        due("o 0 in 2", run(x.narrow(x.make(0), 1)));
        sentence(36, "but cases are not");
        due("n 1 in 4", run(x.match(x.variant(0, n(5)), casesFor("123456789", x.otherCases(0, n(1))))));
        due("n 9 in 4", run(x.match(x.variant(9, n(5)), casesFor("123456789", x.noCases()))));
        sentence(36, "a body is run when it is reached");
        due("f in 1", run(fn(0, x.sum(x.sum(n(1), n(2)), n(3)))));
        due("n 1 in 4", run(x.match(x.variant(1, n(5)),
                x.caseFor(0, 0, x.sum(n(1), n(2)), x.caseFor(1, 0, n(1), x.noCases())))));
        due("n 3 in 3", run(x.let(0, fn(1, x.sum(n(1), n(2))), n(3))));
    }

    private static void names() {
        sentence(36, "with the names as they were where it stands");
        due("n 1 in 10", run(x.let(0, n(1), x.let(1, fn(2, v(0)), x.let(0, n(2), x.apply(v(1), n(3)))))));
        due("n 1 in 9", run(x.let(0, n(1), x.apply(fn(1, x.apply(fn(0, v(1)), n(2))), v(0)))));
        due("n 7 in 6", run(x.apply(fn(0, x.let(0, n(7), v(0))), n(3))));
        sentence(36, "a method is run with the object itself bound");
        classOf(5, -1, x.narrow(v(5), 2), n(7));
        classOf(5, 0);
        int self = x.send(x.make(1), 0);
        due("<1:int>", type(self));
        due("o 1 in 4", run(self));
        sentence(36, "the method is that of the class of which the object was made, wherever it is sent from");
        classOf(0, -1, n(1), x.send(v(0), 0));
        classOf(1, 0, n(2));
        classOf(1, 1);
        for (int clazz = 0; clazz < 3; clazz++) {
            int due = clazz == 0 ? 1 : 2;
            due("n " + due + " in 3", run(x.send(x.make(clazz), 0)));
            due("n " + due + " in 5", run(x.send(x.make(clazz), 1)));
            due("n " + due + " in 4", run(x.send(x.narrow(x.make(clazz), 1), 0)));
            due("n " + due + " in 6", run(x.send(x.narrow(x.make(clazz), 2), 1)));
        }
        sentence(36, "an heir without methods is of its own class");
        classOf(0, -1, n(1));
        classOf(0, 0);
        due("o 1 in 1", run(x.make(1)));
        due("n 1 in 3", run(x.send(x.make(1), 0)));
    }

    /** Whether, of two parts, the one that sends to an object of class 1 is run ahead of one that sends to 0. */
    private static void order(String what, Making making) {
        sentence(36, "in the order of its parts: " + what);
        classOf(0, -1, n(3));
        classOf(0, 0, n(4));
        int send = x.send(v(1), 0);
        // Class 1 has been sent to ahead of this: a hit if the first part is run first.
        int first = x.apply(v(2), x.make(1));
        int second = x.apply(v(2), x.make(0));
        int whole = x.let(2, fn(1, send), x.let(3, x.apply(v(2), x.make(1)), making.make(first, second)));
        x.run(whole);
        due(1, x.hits(send));
        due(2, x.misses(send));
    }

    private interface Making {
        int make(int first, int second);
    }

    private static void orders() {
        order("apply", (first, second) -> x.apply(x.let(4, first, identity()), second));
        order("let", (first, second) -> x.let(4, first, second));
        order("sum", (first, second) -> x.sum(first, second));
        order("choice", (first, second) -> x.choice(first, second, n(0)));
        order("with", (first, second) -> x.with(0, first, x.with(1, second, x.record())));
        order("match", (first, second) -> x.match(x.variant(0, first), x.caseFor(0, 0, second, x.noCases())));
    }

    // ---- The limits of runs ----

    private static void limits() {
        sentence(36, "there are at most 2000 steps");
        for (int steps : new int[] {1999, 2000, 2001, 2002}) {
            x = new Rowan();
            addBlocks(8);
            int term = termOf(steps, 8);
            due(steps < 2000 ? steps : 2000, x.run(term));
            due(steps <= 2000 ? 'n' : 'l', x.outcome());
            due(steps < 2000 ? steps : 2000, x.runBySearch(term));
            due(steps <= 2000 ? 'n' : 'l', x.outcome());
        }
        sentence(36, "at most 100 terms run within one another at the same time, the run term included");
        due('n', outcomeOfDepth(48, 0));
        due('n', outcomeOfDepth(48, 1));
        due('d', outcomeOfDepth(48, 2));
        due('n', outcomeOfDepth(47, 3));
        due('d', outcomeOfDepth(47, 4));
        sentence(36, "at the same time: those that have ended do not count");
        addBlocks(8);
        int wide = termOf(1999, 8);
        due(1999, x.run(wide));
        due('n', x.outcome());
        sentence(36, "if another one would have to begin: the steps of a run that fails by terms within one another");
        classOf(0, -1, x.send(v(0), 0));
        int loop = x.send(x.make(0), 0);
        due(199, x.run(loop));
        due('d', x.outcome());
        // Two sums more, with a number each, and two sends less, with a name each.
        due(199, x.run(x.sum(n(0), x.sum(n(0), x.send(x.make(0), 0)))));
        due('d', x.outcome());
        sentence(36, "by steps if both are too many");
        bothLimits(1800, 'd', 1998);
        bothLimits(1801, 'd', 1999);
        bothLimits(1802, 'l', 2000);
        bothLimits(1803, 'l', 2000);
    }

    private static void runsBehindFailures() {
        sentence(36, "a run that fails leaves nothing to the next one");
        classOf(0, -1, x.send(v(0), 0));
        int loop = x.send(x.make(0), 0);
        x.run(loop);
        due('d', x.outcome());
        due("n 5 in 3", run(x.sum(n(2), n(3))));
        due(199, x.run(loop));
        due('d', x.outcome());
        due("r in 1", run(x.record()));
        sentence(38, "a run that is refused is none");
        int name = v(0);
        int cases = x.noCases();
        thrown(STATE, () -> x.run(name));
        due('-', x.outcome());
        thrown(INDEX, () -> x.runBySearch(cases));
        due('-', x.outcome());
        x.run(n(6));
        thrown(STATE, () -> x.runBySearch(name));
        thrown(INDEX, () -> x.run(-1));
        due("n 6", end());
        sentence(38, "the last run");
        int record = recordOf("1");
        int number = n(1);
        x.run(record);
        x.runBySearch(number);
        due('n', x.outcome());
        thrown(ELEMENT, () -> x.resultField(1));
        x.run(record);
        due('r', x.outcome());
        thrown(ELEMENT, () -> x.result());
    }

    /** A program with a type ends; without what it would lack, the same program has none. */
    private static void lacking(int whole, int lacking) {
        due(true, "nfrvo".indexOf(run(whole).charAt(0)) >= 0);
        wrongAt('t', lacking, lacking);
        thrown(STATE, () -> x.run(lacking));
        thrown(STATE, () -> x.runBySearch(lacking));
    }

    private static void nothingLacks() {
        sentence(36, "no program with a type calls a method that is not there");
        classOf(0, -1, n(1));
        classOf(0, 0, n(2), n(3));
        lacking(x.send(x.make(1), 1), x.send(x.make(0), 1));
        lacking(x.send(x.narrow(x.make(1), 2), 1), x.send(x.narrow(x.make(1), 1), 1));
        sentence(36, "or asks for a label that is not there");
        lacking(x.get(recordOf("12"), 2), x.get(recordOf("12"), 3));
        lacking(x.without(recordOf("12"), 2), x.without(x.without(recordOf("12"), 2), 2));
        sentence(36, "or matches nothing");
        lacking(x.match(x.variant(2, n(1)), casesFor("12", x.noCases())),
                x.match(x.variant(3, n(1)), casesFor("12", x.noCases())));
        due("n 7 in 4", run(x.match(x.variant(3, n(1)), casesFor("12", x.otherCases(0, n(7))))));
        sentence(36, "the number of steps");
        due(1, x.run(n(1)));
        due(3, x.run(x.sum(n(1), n(2))));
        sentence(37, "the number of steps of a run by search");
        due(1, x.runBySearch(n(1)));
        due(3, x.runBySearch(x.sum(n(1), n(2))));
        due('n', x.outcome());
        sentence(39, "the number that came of the last run");
        x.run(n(MIN));
        due(MIN, x.result());
        x.runBySearch(n(MAX));
        due(MAX, x.result());
        due(MAX, x.result());
    }

    private static void results() {
        sentence(41, "the number that the record has for a label");
        int record = x.with(9, n(MIN), x.with(5, identity(), x.with(4, x.variant(0, n(1)), x.with(3, x.record(),
                x.with(0, n(0), x.record())))));
        x.run(record);
        due('r', x.outcome());
        due(0, x.resultField(0));
        due(MIN, x.resultField(9));
        for (int i = 1; i < 9; i++) {
            int label = i;
            thrown(ELEMENT, () -> x.resultField(label));
        }
        thrown(ARGUMENT, () -> x.resultField(-1));
        thrown(ARGUMENT, () -> x.resultField(10));
        sentence(41, "a label that is taken away and put in again");
        x.run(x.with(2, n(7), x.without(x.with(3, n(1), x.with(2, n(6), x.record())), 2)));
        due(7, x.resultField(2));
        due(1, x.resultField(3));
        x.run(x.without(x.with(3, n(1), x.with(2, n(6), x.record())), 2));
        thrown(ELEMENT, () -> x.resultField(2));
        due(1, x.resultField(3));
        sentence(40, "the label of the variant");
        for (int label = 0; label < 10; label++) {
            due("v " + label + " in 2", run(x.variant(label, n(1))));
            due(label, x.resultLabel());
        }
        sentence(42, "the class of the object");
        for (int clazz = 0; clazz < 8; clazz++) {
            x.addClass(0, clazz - 1);
            due("o " + clazz + " in 1", run(x.make(clazz)));
            due(clazz, x.resultClass());
        }
    }

    // ---- Caches ----

    /** A function that sends, applied to objects of these classes in turn. */
    private static int sendTo(int send, String classes) {
        int whole = n(0);
        for (int i = classes.length() - 1; i >= 0; i--) {
            whole = x.sum(x.apply(v(2), x.make(classes.charAt(i) - '0')), whole);
        }
        return x.let(2, fn(1, send), whole);
    }

    private static void cached(String classes, int hits, int misses) {
        x = new Rowan();
        classOf(0, -1, n(1));
        classOf(0, 0, n(2));
        classOf(0, 0);
        int send = x.send(v(1), 0);
        int whole = sendTo(send, classes);
        x.runBySearch(whole);
        due(0, x.hits(send) + x.misses(send));
        x.run(whole);
        due(hits, x.hits(send));
        due(misses, x.misses(send));
    }

    private static void caches() {
        sentence(43, "it is a hit if its class is kept, and a miss otherwise, and then its class is kept");
        cached("", 0, 0);
        cached("0", 0, 1);
        cached("00", 1, 1);
        cached("01", 0, 2);
        cached("000", 2, 1);
        cached("010", 0, 3);
        cached("0110", 1, 3);
        cached("02", 0, 2);
        cached("22", 1, 1);
        cached("0022", 2, 2);
        sentence(43, "they are counted over all runs");
        classOf(0, -1, n(1));
        classOf(0, 0, n(2));
        int send = x.send(v(1), 0);
        int whole = sendTo(send, "01");
        for (int i = 1; i <= 10; i++) {
            x.run(whole);
            due(0, x.hits(send));
            due(2 * i, x.misses(send));
        }
        int one = x.send(x.make(0), 0);
        for (int i = 1; i <= 10; i++) {
            x.run(one);
            due(i - 1, x.hits(one));
            due(1, x.misses(one));
        }
        sentence(43, "each term that sends has a cache");
        classOf(0, -1, n(1));
        int first = x.send(x.make(0), 0);
        int second = x.send(x.make(0), 0);
        x.run(first);
        x.run(first);
        due(1, x.hits(first));
        due(0, x.hits(second));
        due(0, x.misses(second));
        x.run(second);
        due(0, x.hits(second));
        due(1, x.misses(second));
    }

    private static void searches() {
        sentence(44, "runs by search count none");
        classOf(0, -1, n(1));
        classOf(0, 0, n(2));
        int send = x.send(v(1), 0);
        int choose = x.apply(fn(1, send), x.choice(n(1), x.make(0), x.make(1)));
        x.runBySearch(choose);
        due(0, x.hits(send));
        due(0, x.misses(send));
        thrown(ARITHMETIC, () -> x.hitShare());
        x.run(choose);
        x.runBySearch(choose);
        due(0, x.hits(send));
        due(1, x.misses(send));
        x.run(choose);
        due(1, x.hits(send));
        due(1, x.misses(send));
        sentence(43, "a run that fails counts what it has sent");
        classOf(0, -1, x.send(v(0), 0));
        int inner = 1;
        due('-', x.error(x.send(x.make(0), 0)));
        int loop = x.terms() - 1;
        x.run(loop);
        due('d', x.outcome());
        due(97, x.hits(inner));
        due(1, x.misses(inner));
        due(1, x.misses(loop));
        x.runBySearch(loop);
        due(97, x.hits(inner));
        x.run(loop);
        due(195, x.hits(inner));
        due(1, x.hits(loop));
    }

    private static void shares() {
        sentence(45, "if there were none");
        thrown(ARITHMETIC, () -> x.hitShare());
        thrown(ARITHMETIC, () -> x.hitShareBits());
        x.run(n(1));
        thrown(ARITHMETIC, () -> x.hitShare());
        thrown(ARITHMETIC, () -> x.hitShareBits());
        sentence(45, "their number divided by that of both, of all terms");
        classOf(0, -1, n(1));
        int first = x.send(x.make(0), 0);
        int second = x.send(x.make(0), 0);
        x.run(first);
        due(0f, x.hitShare());
        due(0, x.hitShareBits());
        x.run(first);
        due(0.5f, x.hitShare());
        due(0x3f000000, x.hitShareBits());
        x.run(second);
        due(1f / 3f, x.hitShare());
        due(0x3eaaaaab, x.hitShareBits());
        x.run(second);
        due(0.5f, x.hitShare());
        for (int i = 3; i < 150; i++) {
            x.run(first);
            due((float) i / (float) (i + 2), x.hitShare());
            due(Float.floatToIntBits((float) i / (float) (i + 2)), x.hitShareBits());
        }
        sentence(46, "the bits of a share near 1, and of one near 0");
        classOf(0, -1, x.send(v(0), 0));
        int loop = x.send(x.make(0), 0);
        int hits = -2;
        for (int i = 0; i < 150; i++) {
            x.run(loop);
            hits += 99;
            float share = (float) hits / (float) (hits + 2);
            due(Float.floatToIntBits(share), x.hitShareBits());
        }
        x = new Rowan();
        classOf(0, -1, n(1));
        classOf(0, 0, n(2));
        int turns = sendTo(x.send(v(1), 0), "0101010101010101");
        int misses = 0;
        for (int i = 0; i < 100; i++) {
            x.run(turns);
            misses += 16;
        }
        due(0f, x.hitShare());
        int once = x.send(x.make(0), 0);
        x.run(once);
        x.run(once);
        due(Float.floatToIntBits(1f / (float) (misses + 2)), x.hitShareBits());
    }

    // ---- Mean lengths, and soundness ----

    private static void means() {
        sentence(47, "if there are none: no terms, only cases, only parts, only terms without a type");
        thrown(ARITHMETIC, () -> x.meanLength());
        x.noCases();
        thrown(ARITHMETIC, () -> x.meanLength());
        x.addClass(0, -1);
        x.addMethod(0, 0, n(1));
        thrown(ARITHMETIC, () -> x.meanLength());
        fn(0, v(1));
        thrown(ARITHMETIC, () -> x.meanLength());
        x.otherCases(0, n(1));
        thrown(ARITHMETIC, () -> x.meanLength());
        sentence(47, "the sum of the lengths divided by the number of these terms");
        n(1);
        due(3.0, x.meanLength());
        x.record();
        due(2.5, x.meanLength());
        x.record();
        due(7.0 / 3.0, x.meanLength());
        identity();
        due(15.0 / 4.0, x.meanLength());
        v(0);
        due(15.0 / 4.0, x.meanLength());
        x.noCases();
        due(15.0 / 4.0, x.meanLength());
        sentence(47, "of 80 terms");
        for (int i = 0; i < 79; i++) {
            n(i);
        }
        x.record();
        due(239.0 / 80.0, x.meanLength());
        due(true, x.isSound());
    }

    private static void soundness() {
        sentence(48, "of an object without terms");
        due(true, x.isSound());
        sentence(48, "terms that are parts, are cases or have no type are left out");
        fn(0, v(1));
        x.noCases();
        x.otherCases(0, n(1));
        x.sum(n(1), x.record());
        due(true, x.isSound());
        sentence(48, "runs that fail end in the same way, too");
        classOf(0, -1, x.send(v(0), 0));
        x.send(x.make(0), 0);
        due(true, x.isSound());
        due('-', x.outcome());
        sentence(48, "types with texts of more than 200 characters");
        functions(48, opened());
        due(true, x.typeLength(x.terms() - 1) > 200);
        due(true, x.isSound());
        sentence(48, "each of 80 terms");
        for (int i = 0; i < 20; i++) {
            x.variant(i % 10, x.sum(n(i), n(1)));
        }
        due(80, x.terms());
        due(true, x.isSound());
        sentence(48, "checks and changes nothing");
        classOf(0, -1, n(1));
        classOf(0, 0, n(2));
        int send = x.send(v(1), 0);
        int whole = sendTo(send, "01");
        text("in");
        due(true, x.isSound());
        due(0, x.hits(send));
        due(0, x.misses(send));
        due('-', x.outcome());
        x.run(whole);
        x.run(n(9));
        due(true, x.isSound());
        due(0, x.hits(send));
        due(2, x.misses(send));
        due("n 9", end());
        due(3, x.write('t'));
        due(true, x.isType());
        due(true, x.isSound());
        due(4, x.write('t'));
        due(true, x.isSound());
        sentence(48, "the caches keep their classes behind a check");
        int inner = x.send(v(0), 1);
        classOf(0, -1, inner, n(5));
        x.addClass(0, 0);
        x.addMethod(1, 1, n(6));
        int ofParent = x.send(x.make(0), 0);
        int ofHeir = x.send(x.make(1), 0);
        due(true, x.isSound());
        x.run(ofParent);
        due(1, x.misses(inner));
        due(true, x.isSound());
        x.run(ofParent);
        due("n 5", end());
        due(1, x.hits(inner));
        due(1, x.misses(inner));
        x.run(ofHeir);
        due("n 6", end());
        due(2, x.misses(inner));
        due(true, x.isSound());
        x.run(ofHeir);
        due("n 6", end());
        due(2, x.hits(inner));
    }

    public static void main(String[] arguments) {
        sums();
        steps();
        names();
        orders();
        limits();
        runsBehindFailures();
        nothingLacks();
        results();
        caches();
        searches();
        shares();
        means();
        soundness();
        finish("boundaries of runs");
    }
}
