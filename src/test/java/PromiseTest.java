/** Tests of the promises by their numbers; each would fail if its promise were broken. */
public final class PromiseTest extends Bench {

    // ---- Terms: promises 1 to 17 ----

    private static void newObject() {
        promise(1);
        due(0, x.terms());
        due('-', x.outcome());
        due(true, x.isSound());
        thrown(ELEMENT, () -> x.methods(0));
        thrown(ELEMENT, () -> x.make(0));
        thrown(INDEX, () -> x.error(0));
        thrown(ARITHMETIC, () -> x.meanLength());
        due(0, x.erase());
        new Rowan().number(1);
        due(0, x.terms());
    }

    private static void plainTerms() {
        promise(2);
        due(0, n(Integer.MIN_VALUE));
        due(1, n(5));
        due("int", type(0));
        due("n -2147483648 in 1", run(0));
        fillTerms();
        thrown(STATE, () -> x.number(0));
        promise(3);
        due(0, v(0));
        due(1, v(7));
        due("u@1", type(1));
        thrown(ARGUMENT, () -> x.name(-1));
        thrown(ARGUMENT, () -> x.name(8));
        fillTerms();
        thrown(ARGUMENT, () -> x.name(8));
        thrown(STATE, () -> x.name(7));
        promise(9);
        due(0, x.record());
        due("{}", type(0));
        due("r in 1", run(0));
        fillTerms();
        thrown(STATE, () -> x.record());
        promise(15);
        due(0, x.noCases());
        due(1, x.terms());
        thrown(INDEX, () -> x.error(0));
        fillTerms();
        thrown(STATE, () -> x.noCases());
    }

    /** What is the same for all terms with parts: parts have to be there, free and others. */
    private static void parts() {
        promise(4);
        thrown(INDEX, () -> x.function(0, 0));
        int part = n(1);
        int cases = x.noCases();
        thrown(ARGUMENT, () -> x.function(8, 99));
        thrown(ARGUMENT, () -> x.function(-1, part));
        thrown(INDEX, () -> x.function(0, cases));
        thrown(INDEX, () -> x.function(0, -1));
        due(2, x.function(0, part));
        thrown(UNSUPPORTED, () -> x.function(0, part));
        fillTerms();
        thrown(UNSUPPORTED, () -> x.function(0, part));
        thrown(STATE, () -> x.function(0, 5));
        promise(5);
        binary((a, b) -> x.apply(a, b));
        promise(6);
        binary((a, b) -> x.let(0, a, b));
        int first = n(1);
        thrown(ARGUMENT, () -> x.let(8, 99, first));
        thrown(ARGUMENT, () -> x.let(-1, first, first));
        promise(7);
        binary((a, b) -> x.sum(a, b));
        promise(8);
        binary((a, b) -> x.choice(a, b, n(0)));
        binary((a, b) -> x.choice(a, n(0), b));
        binary((a, b) -> x.choice(n(0), a, b));
        promise(10);
        binary((a, b) -> x.with(9, a, b));
        wrongLabels((label, part2) -> x.with(label, part2, 99));
        promise(11);
        unary((a, label) -> x.get(a, label));
        promise(12);
        unary((a, label) -> x.without(a, label));
        promise(13);
        unary((a, label) -> x.variant(label, a));
        promise(21);
        unary((a, label) -> x.send(a, label));
    }

    private interface Pair {
        int make(int a, int b);
    }

    private static void binary(Pair way) {
        x = new Rowan();
        int cases = x.noCases();
        int a = n(1);
        int b = n(2);
        int held = n(3);
        fn(0, held);
        thrownAnyTerms(INDEX, () -> way.make(a, cases));
        thrownAnyTerms(INDEX, () -> way.make(cases, b));
        thrownAnyTerms(INDEX, () -> way.make(a, -1));
        thrownAnyTerms(INDEX, () -> way.make(60, held));
        thrownAnyTerms(UNSUPPORTED, () -> way.make(a, a));
        thrownAnyTerms(UNSUPPORTED, () -> way.make(held, b));
        thrownAnyTerms(UNSUPPORTED, () -> way.make(a, held));
        int made = way.make(a, b);
        due(x.terms() - 1, made);
        thrownAnyTerms(UNSUPPORTED, () -> way.make(a, b));
    }

    /** The third part of a choice is made inside the call, so the number of terms may change. */
    private static void thrownAnyTerms(Class<?> due, Call call) {
        try {
            due(due, call.answer());
        } catch (RuntimeException error) {
            due(due, error.getClass());
        }
    }

    private static void unary(Pair way) {
        x = new Rowan();
        int part = n(1);
        int cases = x.noCases();
        wrongLabels((label, any) -> way.make(99, label));
        thrown(INDEX, () -> way.make(cases, 0));
        thrown(INDEX, () -> way.make(2, 9));
        thrown(INDEX, () -> way.make(-1, 9));
        due(2, way.make(part, 9));
        thrown(UNSUPPORTED, () -> way.make(part, 0));
        due(3, way.make(2, 0));
        fillTerms();
        thrown(UNSUPPORTED, () -> way.make(part, 0));
        thrown(STATE, () -> way.make(9, 0));
        thrown(ARGUMENT, () -> way.make(9, 10));
    }

    private static void wrongLabels(Pair way) {
        thrown(ARGUMENT, () -> way.make(10, 0));
        thrown(ARGUMENT, () -> way.make(-1, 0));
    }

    private static void fullForParts() {
        promise(5);
        fillTerms();
        thrown(STATE, () -> x.apply(0, 1));
        thrown(UNSUPPORTED, () -> x.apply(0, 0));
        promise(6);
        fillTerms();
        thrown(STATE, () -> x.let(0, 0, 1));
        promise(7);
        fillTerms();
        thrown(STATE, () -> x.sum(0, 1));
        promise(8);
        fillTerms();
        thrown(STATE, () -> x.choice(0, 1, 2));
        thrown(UNSUPPORTED, () -> x.choice(0, 1, 0));
        promise(10);
        fillTerms();
        thrown(STATE, () -> x.with(0, 0, 1));
        promise(22);
        fillTerms();
        thrown(STATE, () -> x.narrow(0, 0));
    }

    private static void casesAndMatches() {
        promise(14);
        int none = x.noCases();
        int one = n(1);
        thrown(INDEX, () -> x.match(none, one));
        thrown(INDEX, () -> x.match(one, one));
        thrown(INDEX, () -> x.match(none, none));
        thrown(INDEX, () -> x.match(one, 2));
        due(2, x.match(one, none));
        thrown(UNSUPPORTED, () -> x.match(one, none));
        thrown(UNSUPPORTED, () -> x.match(2, none));
        fillTerms();
        thrown(UNSUPPORTED, () -> x.match(one, none));
        promise(14);
        x.noCases();
        fillTerms();
        thrown(STATE, () -> x.match(1, 0));
        promise(16);
        int end = x.noCases();
        int body = n(1);
        thrown(ARGUMENT, () -> x.caseFor(10, 0, 99, end));
        thrown(ARGUMENT, () -> x.caseFor(-1, 0, body, end));
        thrown(ARGUMENT, () -> x.caseFor(0, 8, body, end));
        thrown(INDEX, () -> x.caseFor(0, 0, end, end));
        thrown(INDEX, () -> x.caseFor(0, 0, body, body));
        thrown(INDEX, () -> x.caseFor(0, 0, body, -1));
        due(2, x.caseFor(9, 7, body, end));
        thrown(UNSUPPORTED, () -> x.caseFor(9, 7, body, 2));
        int free = n(1);
        thrown(UNSUPPORTED, () -> x.caseFor(9, 7, free, end));
        fillTerms();
        thrown(STATE, () -> x.caseFor(9, 7, free, 2));
        promise(17);
        int cases = x.noCases();
        int other = n(1);
        thrown(ARGUMENT, () -> x.otherCases(8, cases));
        thrown(INDEX, () -> x.otherCases(0, cases));
        thrown(INDEX, () -> x.otherCases(0, 2));
        due(2, x.otherCases(0, other));
        thrown(UNSUPPORTED, () -> x.otherCases(0, other));
        thrown(INDEX, () -> x.run(2));
        fillTerms();
        thrown(STATE, () -> x.otherCases(0, 5));
    }

    // ---- Classes: promises 18 to 22, 34 and 35 ----

    private static void classes() {
        promise(18);
        thrown(ARGUMENT, () -> x.addClass(8, 0));
        thrown(ARGUMENT, () -> x.addClass(-1, -1));
        thrown(ELEMENT, () -> x.addClass(0, 0));
        thrown(ELEMENT, () -> x.addClass(0, -2));
        due(0, x.addClass(0, -1));
        thrown(ELEMENT, () -> x.addClass(0, 1));
        for (int i = 1; i < 8; i++) {
            due(i, x.addClass(i, i - 1));
        }
        thrown(STATE, () -> x.addClass(0, -1));
        thrown(ELEMENT, () -> x.addClass(0, 8));
        thrown(ELEMENT, () -> x.methods(8));
        promise(19);
        int clazz = x.addClass(0, -1);
        int upper = x.addClass(0, -1);
        int body = n(1);
        int cases = x.noCases();
        thrown(ELEMENT, () -> x.addMethod(2, 10, 99));
        thrown(ELEMENT, () -> x.addMethod(-1, 0, body));
        thrown(ARGUMENT, () -> x.addMethod(clazz, 10, 99));
        thrown(ARGUMENT, () -> x.addMethod(clazz, -1, body));
        thrown(INDEX, () -> x.addMethod(clazz, 0, cases));
        thrown(INDEX, () -> x.addMethod(clazz, 0, 2));
        due(1, x.addMethod(clazz, 0, body));
        thrown(UNSUPPORTED, () -> x.addMethod(clazz, 0, body));
        thrown(UNSUPPORTED, () -> x.function(0, body));
        int more = n(2);
        thrown(STATE, () -> x.addMethod(clazz, 0, more));
        due(2, x.addMethod(clazz, 9, more));
        int maker = x.with(0, x.make(clazz), x.record());
        int last = n(3);
        thrown(STATE, () -> x.addMethod(clazz, 5, last));
        thrown(UNSUPPORTED, () -> x.addMethod(clazz, 5, maker));
        due(1, x.addMethod(upper, 5, maker));
        int deep = fn(0, x.make(upper));
        thrown(UNSUPPORTED, () -> x.addMethod(upper, 6, deep));
        int child = x.addClass(3, x.addClass(3, -1));
        thrown(STATE, () -> x.addMethod(child - 1, 5, last));
        thrown(UNSUPPORTED, () -> x.addMethod(child - 1, 5, body));
        due(1, x.addMethod(child, 5, last));
        due(2, x.methods(clazz));
        promise(20);
        thrown(ELEMENT, () -> x.make(0));
        x.addClass(0, -1);
        thrown(ELEMENT, () -> x.make(-1));
        due(0, x.make(0));
        due("<>", type(0));
        due("o 0 in 1", run(0));
        fillTerms();
        thrown(ELEMENT, () -> x.make(1));
        thrown(STATE, () -> x.make(0));
        promise(20);
        x.addClass(0, -1);
        fillTerms();
        thrown(STATE, () -> x.make(0));
        due(1, x.addMethod(0, 0, 0));
        promise(22);
        thrown(ARGUMENT, () -> x.narrow(0, -1));
        thrown(ARGUMENT, () -> x.narrow(0, 1024));
        thrown(INDEX, () -> x.narrow(0, 1023));
        x.noCases();
        thrown(INDEX, () -> x.narrow(0, 0));
        int object = fn(0, x.narrow(v(0), 0));
        thrown(UNSUPPORTED, () -> x.narrow(1, 0));
        due("<|'0-> -> <>", type(object));
        due("<0:'0,9:'1|'2-09> -> <0:'0,9:'1>", type(fn(0, x.narrow(v(0), 513))));
        int ofRecord = x.narrow(x.record(), 0);
        due("t@" + ofRecord, type(ofRecord));
    }

    private static void methodsOfClasses() {
        promise(34);
        x.addClass(0, -1);
        due(0, x.methods(0));
        x.addMethod(0, 2, n(1));
        x.addMethod(0, 4, n(1));
        x.addClass(0, 0);
        due(2, x.methods(1));
        x.addMethod(1, 4, n(1));
        x.addMethod(1, 0, n(1));
        due(3, x.methods(1));
        due(2, x.methods(0));
        thrown(ELEMENT, () -> x.methods(2));
        thrown(ELEMENT, () -> x.methods(-1));
        promise = 35;
        due(0, x.methodOf(1, 2));
        due(1, x.methodOf(1, 4));
        due(0, x.methodOf(0, 4));
        thrown(ELEMENT, () -> x.methodOf(0, 0));
        thrown(ELEMENT, () -> x.methodOf(2, 10));
        thrown(ELEMENT, () -> x.methodOf(-1, 0));
        thrown(ARGUMENT, () -> x.methodOf(1, 10));
        thrown(ARGUMENT, () -> x.methodOf(1, -1));
        promise(23);
        due(0, x.terms());
        n(1);
        x.noCases();
        due(2, x.terms());
    }

    // ---- Typing: promises 4 to 17, 20 to 22, 24 to 28 ----

    private static void typesOfFunctions() {
        promise(4);
        due("'0 -> '0", type(identity()));
        due("'0 -> '1 -> '0", type(fn(0, fn(1, v(0)))));
        due("'0 -> '1 -> '1", type(fn(0, fn(0, v(0)))));
        promise(5);
        due("('0 -> '1) -> '0 -> '1", type(fn(0, fn(1, x.apply(v(0), v(1))))));
        due("int", type(x.apply(identity(), n(1))));
        due("t@2", typeAfter(() -> x.apply(n(1), n(2))));
        due("u@0", typeAfter(() -> x.apply(v(0), v(0))));
        due("t@2", typeAfter(() -> fn(0, x.apply(v(0), v(0)))));
        due("u@1", typeAfter(() -> x.apply(n(0), v(0))));
        due("u@0", typeAfter(() -> x.apply(v(1), v(0))));
        due("(('0 -> '0) -> '1) -> '1", typeAfter(() -> fn(0, x.apply(v(0), identity()))));
        promise(7);
        due("int -> int -> int", type(fn(0, fn(1, x.sum(v(0), v(1))))));
        due("t@2", typeAfter(() -> x.sum(n(0), x.record())));
        due("t@2", typeAfter(() -> x.sum(x.record(), n(0))));
        promise(8);
        due("int -> '0 -> '0 -> '0", type(fn(0, fn(1, fn(2, x.choice(v(0), v(1), v(2)))))));
        due("t@3", typeAfter(() -> x.choice(n(0), n(1), x.record())));
        due("t@3", typeAfter(() -> x.choice(x.record(), n(1), n(0))));
    }

    private static void typesOfLets() {
        promise(6);
        due("{0:'0 -> '0,1:'1 -> '1}", type(x.let(0, identity(), pairOf(0))));
        due("'0 -> {0:'0,1:'0}", type(fn(0, x.let(1, v(0), pairOf(1)))));
        due("'0 -> {0:'0,1:'0}", type(fn(0, x.let(0, v(0), pairOf(0)))));
        due("'0 -> {0:int,1:'0}", type(fn(0, x.with(0, x.let(0, n(1), v(0)), x.with(1, v(0), x.record())))));
        due("u@0", typeAfter(() -> x.let(0, v(0), v(0))));
        due("{0:{1:'0 -> '0},1:{1:'1 -> '1}}", typeAfter(() ->
                x.let(0, x.with(1, identity(), x.record()), pairOf(0))));
        due("{0:[3:'0 -> '0|'1-3],1:[3:'2 -> '2|'3-3]}", typeAfter(() ->
                x.let(0, x.variant(3, identity()), pairOf(0))));
        // No values: variables on left sides are not for all, others are.
        due("{0:'0 -> '0,1:'0 -> '0}", typeAfter(() -> x.let(0, x.apply(identity(), identity()), pairOf(0))));
        due("{0:[3:int|'0-3],1:[3:int|'1-3]}", typeAfter(() ->
                x.let(0, x.apply(identity(), x.variant(3, n(1))), pairOf(0))));
        due("{0:{1:'0 -> '0},1:{1:'0 -> '0}}", typeAfter(() ->
                x.let(0, x.with(1, x.apply(identity(), identity()), x.record()), pairOf(0))));
        due("{0:[3:'0 -> '0|'1-3],1:[3:'0 -> '0|'2-3]}", typeAfter(() ->
                x.let(0, x.variant(3, x.apply(identity(), identity())), pairOf(0))));
        // 'a on a left side of a left side only.
        due("{0:('0 -> int) -> int,1:('1 -> int) -> int}", typeAfter(PromiseTest::leftOfLeft));
        // A name that a function binds keeps its variables; what is new gets new ones.
        due("{|'0-1} -> {0:{1:int|'0-1},1:{1:int|'0-1}}", typeAfter(() ->
                fn(0, x.let(1, x.with(1, n(1), v(0)), pairOf(1)))));
        due("{0:{|'0-0} -> {0:int|'0-0},1:{|'1-0} -> {0:int|'1-0}}", typeAfter(() ->
                x.let(1, fn(0, x.with(0, n(1), v(0))), pairOf(1))));
        due("int", typeAfter(() -> x.let(0, identity(),
                x.apply(x.apply(v(0), v(0)), x.get(x.apply(v(0), x.with(4, n(1), x.record())), 4)))));
    }

    private static int leftOfLeft() {
        x.addClass(0, -1);
        x.addMethod(0, 0, x.send(v(0), 0));
        int any = x.send(x.make(0), 0);
        int bound = fn(1, x.sum(x.apply(v(1), any), n(0)));
        return x.let(0, x.apply(identity(), bound), pairOf(0));
    }

    private static void typesOfRecords() {
        promise(10);
        due("{3:int,7:{}}", type(x.with(7, x.record(), x.with(3, n(1), x.record()))));
        due("{|'0-3} -> {3:int|'0-3}", type(fn(0, x.with(3, n(1), v(0)))));
        due("{|'0-35} -> {3:int,5:int|'0-35}", type(fn(0, x.with(5, n(1), x.with(3, n(1), v(0))))));
        due("t@4", typeAfter(() -> x.with(3, n(0), x.with(3, n(0), x.record()))));
        due("t@2", typeAfter(() -> x.with(3, n(0), n(1))));
        promise(11);
        due("{4:'0|'1-4} -> '0", type(fn(0, x.get(v(0), 4))));
        due("t@1", typeAfter(() -> x.get(x.record(), 0)));
        due("t@1", typeAfter(() -> x.get(n(0), 0)));
        promise(12);
        due("{4:'0|'1-4} -> {|'1-4}", type(fn(0, x.without(v(0), 4))));
        due("{0:'0|'1-01} -> {1:'0|'1-01}",
                type(fn(4, x.with(1, x.get(v(4), 0), x.without(v(4), 0)))));
        due("t@1", typeAfter(() -> x.without(x.record(), 9)));
        due("{}", typeAfter(() -> x.without(x.with(2, n(0), x.record()), 2)));
        // The same end behind other labels can never be one row.
        due("t@7", typeAfter(() -> fn(0, x.choice(n(0), x.with(1, n(0), v(0)), x.with(2, n(0), v(0))))));
        // A record that would be a part of itself.
        due("{0:{0:'0|'1-0}|'1-0} -> {0:'0|'1-0}", typeAfter(() -> fn(0, x.choice(n(0), x.get(v(0), 0),
                x.with(0, x.get(x.get(v(0), 0), 0), x.without(v(0), 0))))));
        due("t@7", typeAfter(() -> fn(0, x.choice(n(0), x.get(v(0), 0), x.with(0, v(0), x.without(v(0), 0))))));
    }

    private static void typesOfVariants() {
        promise(13);
        due("[3:{}|'0-3]", type(x.variant(3, x.record())));
        due("'0 -> [9:'0|'1-9]", type(fn(0, x.variant(9, v(0)))));
        due("t@4", typeAfter(() -> x.choice(n(0), x.variant(0, n(1)), x.record())));
        due("[0:int,1:{}|'0-01]", typeAfter(() ->
                x.choice(n(0), x.variant(0, n(1)), x.variant(1, x.record()))));
        promise(14);
        due("[] -> '0", typeAfter(() -> fn(0, x.match(v(0), x.noCases()))));
        due("[1:int] -> int", typeAfter(() ->
                fn(0, x.match(v(0), x.caseFor(1, 1, x.sum(v(1), n(1)), x.noCases())))));
        due("t@5", typeAfter(() -> x.match(x.variant(0, n(1)), x.caseFor(1, 1, v(1), x.noCases()))));
        due("t@2", typeAfter(() -> x.match(n(0), x.noCases())));
        promise(16);
        due("[1:'0,2:'0] -> '0", typeAfter(() ->
                fn(0, x.match(v(0), x.caseFor(1, 1, v(1), x.caseFor(2, 3, v(3), x.noCases()))))));
        due("[1:int] -> int", typeAfter(() -> fn(0, x.match(v(0),
                x.caseFor(1, 1, n(5), x.caseFor(1, 3, x.sum(v(3), n(1)), x.noCases()))))));
        due("t@9", typeAfter(() -> fn(0, x.match(v(0), x.caseFor(1, 1, x.get(v(1), 2),
                x.caseFor(1, 3, x.sum(v(3), n(1)), x.noCases()))))));
        due("u@2", typeAfter(() -> fn(0, x.match(v(0), x.caseFor(1, 1, n(0),
                x.caseFor(2, 2, v(1), x.noCases()))))));
        promise(17);
        due("[1:'0,2:'0|'1-12] -> [2:'0|'1-12]", typeAfter(() -> fn(0, x.match(v(0),
                x.caseFor(1, 1, x.variant(2, v(1)), x.otherCases(2, v(2)))))));
        due("[|'0-] -> [|'0-]", typeAfter(() -> fn(0, x.match(v(0), x.otherCases(2, v(2))))));
        due("[0:'0,4:int|'1-04] -> int", typeAfter(() -> fn(0, x.match(v(0),
                x.caseFor(4, 1, v(1), x.caseFor(0, 1, n(1), x.otherCases(2, n(3))))))));
        due("int", typeAfter(() -> x.match(x.variant(9, n(2)), x.caseFor(1, 1, v(1), x.otherCases(2, n(3))))));
    }

    private static void typesOfObjects() {
        promise(20);
        x.addClass(0, -1);
        x.addMethod(0, 1, x.send(v(0), 2));
        x.addMethod(0, 0, fn(1, x.choice(n(0), v(1), x.send(v(0), 1))));
        int abstractOne = x.make(0);
        due("t@" + abstractOne, type(abstractOne));
        x.addClass(1, 0);
        x.addMethod(1, 2, n(7));
        due("<0:int -> int,1:int,2:int>", type(x.make(1)));
        x.addClass(2, 0);
        x.addMethod(2, 2, identity());
        due("<0:('0 -> '0) -> '0 -> '0,1:'0 -> '0,2:'0 -> '0>", type(x.make(2)));
        x.addClass(2, 1);
        x.addMethod(3, 1, x.record());
        int clash = x.make(3);
        due("t@" + clash, type(clash));
        x.addClass(2, 3);
        int heir = x.make(4);
        due("t@" + heir, type(heir));
        x.addClass(2, -1);
        x.addMethod(5, 3, v(1));
        int unbound = x.with(0, x.make(5), x.record());
        due("u@" + (unbound - 2), type(unbound));
        x.addClass(5, -1);
        x.addMethod(6, 0, v(5));
        int itself = x.make(6);
        due("t@" + itself, type(itself));
        promise(21);
        due("<5:'0|'1-5> -> '0", type(fn(0, x.send(v(0), 5))));
        int ofRecord = x.send(x.record(), 5);
        due("t@" + ofRecord, type(ofRecord));
        promise(22);
        x.addClass(0, -1);
        x.addMethod(0, 0, n(1));
        x.addMethod(0, 1, x.record());
        due("<1:{}>", type(x.narrow(x.make(0), 2)));
        due("<0:int,1:{}>", type(x.narrow(x.make(0), 3)));
        int tooMany = x.narrow(x.make(0), 4);
        due("t@" + tooMany, type(tooMany));
        int lost = x.send(x.narrow(x.make(0), 1), 1);
        due("t@" + lost, type(lost));
        due("<0:int>", type(x.choice(n(0), x.narrow(x.make(0), 1), x.narrow(x.make(0), 1))));
    }

    private static int doubled(int times) {
        int inner = n(1);
        for (int i = 0; i < times; i++) {
            inner = x.apply(v(6), inner);
        }
        return inner;
    }

    private static int withDouble(int body) {
        return x.let(6, fn(5, pairOf(5)), body);
    }

    private static void errors() {
        promise(24);
        // {0:T,1:T} has 3 + 2 * T parts: 5, 13, 29, 61; a function 2 more, a variant 3 more.
        due('-', x.error(withDouble(functions(18, x.variant(0, doubled(4))))));
        promise(24);
        int whole = withDouble(functions(20, doubled(4)));
        due('s', x.error(whole));
        promise = 25;
        // The let's first part, of six terms, was made behind the functions.
        due(whole - 7, x.errorAt(whole));
        promise(24);
        due('-', x.error(withDouble(functions(19, doubled(4)))));
        promise(24);
        int five = doubled(5);
        int large = withDouble(five);
        due('s', x.error(large));
        due(five, x.errorAt(large));
        due('u', x.error(five));
        // The error is at the first term that has one, parts first and in their order.
        promise(25);
        int second = x.sum(n(1), x.record());
        int both = x.sum(x.get(x.record(), 0), second);
        due('t', x.error(both));
        due(second + 2, x.errorAt(both));
        due(second, x.errorAt(second));
        thrown(ELEMENT, () -> x.errorAt(0));
        int cases = x.noCases();
        thrown(INDEX, () -> x.errorAt(cases));
        thrown(INDEX, () -> x.error(cases));
        thrown(INDEX, () -> x.error(-1));
        thrown(INDEX, () -> x.error(x.terms()));
        thrown(INDEX, () -> x.errorAt(80));
        // A body with too many parts makes its class wrong, where an object is made of it.
        promise(24);
        x.addClass(0, -1);
        x.addMethod(0, 0, withDouble(doubled(5)));
        int object = x.make(0);
        int outer = fn(0, object);
        due('s', x.error(outer));
        due(object, x.errorAt(outer));
    }

    private static void texts() {
        promise(26);
        int identity = identity();
        due(8, x.typeLength(identity));
        int name = v(0);
        int cases = x.noCases();
        thrown(STATE, () -> x.typeLength(name));
        thrown(INDEX, () -> x.typeLength(cases));
        thrown(INDEX, () -> x.typeLength(80));
        promise = 27;
        due('\'', x.typeAt(identity, 0));
        due('0', x.typeAt(identity, 7));
        thrown(ELEMENT, () -> x.typeAt(identity, 8));
        thrown(ELEMENT, () -> x.typeAt(identity, -1));
        thrown(STATE, () -> x.typeAt(name, 99));
        thrown(INDEX, () -> x.typeAt(cases, 99));
        promise = 28;
        due(1, x.variables(identity));
        due(0, x.variables(n(1)));
        due(2, x.variables(fn(0, fn(1, v(0)))));
        thrown(STATE, () -> x.variables(name));
        thrown(INDEX, () -> x.variables(cases));
        promise(28);
        due(2, x.variables(fn(4, x.with(1, x.get(v(4), 0), x.without(v(4), 0)))));
        // More than ten variables have numbers with two digits.
        promise(27);
        int term = v(0);
        for (int i = 0; i < 12; i++) {
            term = x.apply(term, fn(i % 2 + 1, n(i)));
        }
        StringBuilder shown = new StringBuilder("(");
        for (int i = 0; i < 12; i++) {
            shown.append("('").append(i).append(" -> int) -> ");
        }
        int whole = fn(0, term);
        due(shown + "'12) -> '12", type(whole));
        due(13, x.variables(whole));
    }

    private static void general() {
        promise(29);
        int any = identity();
        int number = fn(0, x.sum(v(0), n(1)));
        due(true, x.isGeneral(any, number));
        due(false, x.isGeneral(number, any));
        due(true, x.isGeneral(any, any));
        int two = fn(0, fn(1, v(0)));
        int one = fn(0, fn(1, x.choice(n(0), v(0), v(1))));
        due(true, x.isGeneral(two, one));
        due(false, x.isGeneral(one, two));
        int field = fn(0, x.get(v(0), 1));
        int closed = fn(0, x.choice(n(0), x.get(v(0), 1), x.get(x.choice(n(0), v(0),
                x.with(1, n(1), x.record())), 1)));
        due(true, x.isGeneral(field, closed));
        due(false, x.isGeneral(closed, field));
        int name = v(0);
        int cases = x.noCases();
        thrown(STATE, () -> x.isGeneral(any, name));
        thrown(STATE, () -> x.isGeneral(name, any));
        thrown(INDEX, () -> x.isGeneral(name, cases));
        thrown(INDEX, () -> x.isGeneral(-1, name));
        // A row variable has to lack what it lacks in the other type, too.
        promise(29);
        int free = fn(0, x.narrow(v(0), 0));
        int open = fn(0, x.let(1, x.send(v(0), 3), x.narrow(v(0), 0)));
        due("<|'0-> -> <>", type(free));
        due("<3:'0|'1-3> -> <>", type(open));
        due(true, x.isGeneral(free, open));
        due(false, x.isGeneral(open, free));
        int less = fn(0, x.let(1, fn(2, x.choice(n(0), v(2), v(0))), x.with(5, n(1), v(0))));
        int more = fn(0, x.let(1, x.with(6, n(1), v(0)), x.with(5, n(1), v(0))));
        due("{|'0-5} -> {5:int|'0-5}", type(less));
        due("{|'0-56} -> {5:int|'0-56}", type(more));
        due(true, x.isGeneral(less, more));
        due(false, x.isGeneral(more, less));
    }

    // ---- Reading: promises 30 to 33 ----

    private static void writing() {
        promise(30);
        String all = "0123456789abcdefghijklmnopqrstuvwxyz :,|'-><(){}[]";
        int count = 0;
        for (char sign = 0; sign < 300; sign++) {
            char each = sign;
            if (all.indexOf(each) >= 0) {
                count++;
                due(count, x.write(each));
            } else {
                thrown(ARGUMENT, () -> x.write(each));
            }
        }
        promise = 31;
        due(all.length(), x.erase());
        due(0, x.erase());
        due(false, x.isType());
        promise = 30;
        for (int i = 1; i <= 200; i++) {
            due(i, x.write('{'));
        }
        thrown(STATE, () -> x.write('}'));
        thrown(ARGUMENT, () -> x.write('A'));
        due(false, x.isType());
        promise = 31;
        due(200, x.erase());
        due(1, x.write('i'));
    }

    private static void reading() {
        promise(32);
        String[] types = {"int", "'0", "'99", "'10 -> '9", "int -> int -> int", "(int -> int) -> int",
            "((int -> '5) -> int) -> int", "{}", "[]", "<>", "{|'0-}", "<|'0-0123456789>", "{0:int}",
            "{0:int,9:{}}", "[3:'1|'0-]", "{0:int,3:'0|'1-03} -> '0", "{0:int -> int,1:(int -> int) -> int}",
            "{|'3-} -> [|'3-5] -> <|'3-0>", "{0:{1:{2:[]}}}"};
        for (String type : types) {
            due("true " + type, isType(type) + " " + type);
        }
        String[] others = {"", " ", "i", "in", "intt", " int", "int ", "int ->", "int -> ", "int->int", "int  -> int",
            "(int)", "(int) -> int", "int -> (int -> int)", "((int -> int)) -> int", "(int -> int)", "('0) -> int",
            "'", "'00", "'01", "'100", "'a", "{", "}", "{]", "{0}", "{0:}", "{:int}", "{0:int,}", "{,0:int}",
            "{1:int,0:int}", "{0:int,0:int}", "{10:int}", "{0:int|}", "{0:int|'0}", "{|'0-10}", "{|'0-00}",
            "{0:int|'0-,1:int}", "{|'0-a}", "{|int}", "{0:'0|'0-}", "'0 -> {|'0-}", "{|'0-} -> '0", "{0:int}{}",
            "int int", "{0 :int}", "{0: int}", "0", ":", "-> int", ")", "(int -> int", "int) -> int",
            "{0:int)", "(int -> int} -> int", "int - > int", "{0:int||'0-}", "{|'0-|'1-}", "{0:int|'0-0|}"};
        for (String type : others) {
            due("false " + type, isType(type) + " " + type);
        }
        StringBuilder deep = new StringBuilder();
        for (int i = 0; i < 49; i++) {
            deep.append("{0:");
        }
        deep.append("int");
        for (int i = 0; i < 49; i++) {
            deep.append("}");
        }
        due(199, deep.length());
        due(true, isType(deep.toString()));
        x.write('}');
        due(false, x.isType());
        due(true, isType("(((((((((((((((((((((int -> int) -> int) -> int) -> int) -> int) -> int) -> int) -> int) -> int)"
                + " -> int) -> int) -> int) -> int) -> int) -> int) -> int) -> int) -> int) -> int) -> int) -> int) -> int"));
    }

    private static void accepting() {
        promise(33);
        int identity = identity();
        due(true, accepts("'0 -> '0", identity));
        due(true, accepts("'5", identity));
        due(true, accepts("int -> '0", identity));
        due(true, accepts("(int -> '0) -> int -> int", identity));
        due(false, accepts("int -> {}", identity));
        due(false, accepts("'0 -> {1:'0}", identity));
        due(false, accepts("int", identity));
        int with = fn(0, x.with(3, n(1), v(0)));
        due(true, accepts("{} -> {3:int}", with));
        due(true, accepts("{0:'0|'1-03} -> {0:int,3:'0|'1-}", with));
        due(false, accepts("{3:int} -> '0", with));
        due(false, accepts("{|'0-} -> {|'0-}", with));
        due(true, accepts("{|'0-} -> {|'1-}", with));
        due(true, accepts("{|'0-} -> {3:int|'0-3}", with));
        due(true, accepts("{|'0-0} -> {3:int|'0-}", with));
        due(false, accepts("{0:int|'0-0} -> {3:int|'0-}", with));
        due(false, accepts("{0:int|'0-} -> {3:int|'1-0}", with));
        due(false, accepts("{0:int|'1-0} -> {0:int,3:int|'1-} -> int", with));
        due(true, accepts("<> -> <>", fn(0, x.narrow(v(0), 0))));
        due(false, accepts("{} -> <>", x.terms() - 1));
        // A row variable lacks the labels ahead of it, and what it is told to lack, anywhere.
        int any = fn(0, x.with(0, n(1), x.record()));
        due(true, accepts("{1:int|'0-} -> {|'0-}", any));
        due(false, accepts("{0:int|'0-} -> {|'0-}", any));
        due(false, accepts("{|'0-0} -> {|'0-}", any));
        int two = fn(1, fn(0, x.with(0, n(1), x.record())));
        due(true, accepts("{|'1-0} -> {|'0-} -> {|'0-}", two));
        due(false, accepts("{|'0-0} -> {|'0-} -> {|'0-}", two));
        text("int ->");
        thrown(UNSUPPORTED, () -> x.accepts(identity));
        int name = v(0);
        int cases = x.noCases();
        thrown(STATE, () -> x.accepts(name));
        thrown(INDEX, () -> x.accepts(cases));
        thrown(INDEX, () -> x.accepts(-1));
        text("'0 -> '0");
        due('-', x.error(identity));
        due(true, x.accepts(identity));
    }

    // ---- Running: promises 36 to 46 ----

    private static void running() {
        promise(36);
        due("n -2147483648 in 3", run(x.sum(n(Integer.MAX_VALUE), n(1))));
        due("n 2 in 3", run(x.choice(n(-5), n(2), n(3))));
        due("n 3 in 3", run(x.choice(n(0), n(2), n(3))));
        due("f in 1", run(identity()));
        due("n 4 in 4", run(x.apply(identity(), n(4))));
        due("n 9 in 3", run(x.let(0, n(9), v(0))));
        // A body sees the names as they were where it stands.
        due("n 1 in 10", run(x.let(0, n(1), x.let(1, fn(2, v(0)), x.let(0, n(2), x.apply(v(1), n(3)))))));
        due("n 6 in 6", run(x.match(x.variant(3, n(5)), x.caseFor(3, 0, x.sum(v(0), n(1)), x.noCases()))));
        due("v 3 in 4", run(x.match(x.variant(3, n(5)), x.caseFor(2, 0, x.variant(3, n(0)), x.otherCases(0, v(0))))));
        due("n 1 in 4", run(x.match(x.variant(3, n(5)),
                x.caseFor(3, 0, n(1), x.caseFor(3, 0, n(2), x.noCases())))));
        int name = v(0);
        int cases = x.noCases();
        promise = 36;
        thrown(STATE, () -> x.run(name));
        thrown(INDEX, () -> x.run(cases));
        thrown(INDEX, () -> x.run(80));
        promise = 37;
        thrown(STATE, () -> x.runBySearch(name));
        thrown(INDEX, () -> x.runBySearch(cases));
        thrown(INDEX, () -> x.runBySearch(-1));
        due("n 1", end());
    }

    private static void results() {
        promise(38);
        due('-', x.outcome());
        thrown(ELEMENT, () -> x.result());
        thrown(ELEMENT, () -> x.resultLabel());
        thrown(ELEMENT, () -> x.resultField(0));
        thrown(ELEMENT, () -> x.resultClass());
        thrown(ARGUMENT, () -> x.resultField(10));
        x.addClass(0, -1);
        int number = n(7);
        int record = x.with(4, n(-1), x.with(5, x.record(), x.record()));
        int variant = x.variant(6, n(1));
        int object = x.make(0);
        int function = identity();
        x.run(number);
        due('n', x.outcome());
        promise = 39;
        due(7, x.result());
        thrown(ELEMENT, () -> x.resultLabel());
        thrown(ELEMENT, () -> x.resultClass());
        thrown(ELEMENT, () -> x.resultField(4));
        x.run(record);
        promise = 41;
        due('r', x.outcome());
        due(-1, x.resultField(4));
        thrown(ELEMENT, () -> x.resultField(5));
        thrown(ELEMENT, () -> x.resultField(0));
        thrown(ARGUMENT, () -> x.resultField(-1));
        thrown(ELEMENT, () -> x.result());
        x.run(x.without(x.with(4, n(5), x.record()), 4));
        due('r', x.outcome());
        thrown(ELEMENT, () -> x.resultField(4));
        x.run(variant);
        promise = 40;
        due('v', x.outcome());
        due(6, x.resultLabel());
        thrown(ELEMENT, () -> x.result());
        thrown(ELEMENT, () -> x.resultField(6));
        x.run(object);
        promise = 42;
        due('o', x.outcome());
        due(0, x.resultClass());
        thrown(ELEMENT, () -> x.resultLabel());
        x.runBySearch(function);
        promise = 38;
        due('f', x.outcome());
        thrown(ELEMENT, () -> x.result());
        thrown(ELEMENT, () -> x.resultClass());
        thrown(ARGUMENT, () -> x.resultField(10));
        thrown(ELEMENT, () -> x.resultField(9));
        int name = v(0);
        thrown(STATE, () -> x.run(name));
        due('f', x.outcome());
    }

    private static void limits() {
        promise(36);
        addBlocks(8);
        int most = termOf(2000, 8);
        due("n", run(most).substring(0, 1));
        due(2000, x.run(most));
        due('n', x.outcome());
        promise(36);
        addBlocks(8);
        int many = termOf(2001, 8);
        due(2000, x.run(many));
        due('l', x.outcome());
        thrown(ELEMENT, () -> x.result());
        due(2000, x.runBySearch(many));
        due('l', x.outcome());
        // A method that runs itself: 99 sends within one another, with a name in each but the last.
        promise(36);
        x.addClass(0, -1);
        int inner = x.send(v(0), 0);
        x.addMethod(0, 0, inner);
        int loop = x.send(x.make(0), 0);
        due(199, x.run(loop));
        due('d', x.outcome());
        due(97, x.hits(inner));
        due(1, x.misses(inner));
        due(1, x.misses(loop));
        due("'0", type(loop));
        // Both limits at once, and one step ahead of that.
        promise(36);
        bothLimits(1801, 'd', 1999);
        bothLimits(1802, 'l', 2000);
        // One hundred terms within one another are fine.
        promise(36);
        due('n', outcomeOfDepth(48, 0));
        due('n', outcomeOfDepth(48, 1));
        due('d', outcomeOfDepth(48, 2));
        due('d', outcomeOfDepth(49, 0));
    }

    private static void caches() {
        promise(43);
        x.addClass(0, -1);
        x.addMethod(0, 0, n(1));
        x.addClass(0, 0);
        x.addMethod(1, 0, n(2));
        int part = v(1);
        int send = x.send(part, 0);
        // Sent to in turn: class 0, class 1, class 1.
        int whole = x.let(2, fn(1, send), x.sum(x.apply(v(2), x.make(0)),
                x.sum(x.apply(v(2), x.make(1)), x.apply(v(2), x.make(1)))));
        due(0, x.hits(send));
        promise = 44;
        due(0, x.misses(send));
        promise = 45;
        thrown(ARITHMETIC, () -> x.hitShare());
        promise = 46;
        thrown(ARITHMETIC, () -> x.hitShareBits());
        x.runBySearch(whole);
        thrown(ARITHMETIC, () -> x.hitShareBits());
        due(5, x.result());
        x.run(whole);
        due(5, x.result());
        promise = 43;
        due(1, x.hits(send));
        promise = 44;
        due(2, x.misses(send));
        promise = 45;
        due((float) 1 / (float) 3, x.hitShare());
        promise = 46;
        due(Float.floatToIntBits((float) 1 / (float) 3), x.hitShareBits());
        promise = 48;
        due(true, x.isSound());
        due(1, x.hits(send));
        due(2, x.misses(send));
        due(5, x.result());
        x.run(whole);
        promise = 43;
        due(2, x.hits(send));
        due(4, x.misses(send));
        thrown(ELEMENT, () -> x.hits(part));
        int cases = x.noCases();
        thrown(INDEX, () -> x.hits(cases));
        thrown(INDEX, () -> x.hits(-1));
        promise = 44;
        thrown(ELEMENT, () -> x.misses(part));
        thrown(INDEX, () -> x.misses(cases));
        thrown(INDEX, () -> x.misses(80));
        promise(46);
        x.addClass(0, -1);
        x.addMethod(0, 0, n(1));
        int only = x.send(x.make(0), 0);
        x.run(only);
        due(0f, x.hitShare());
        due(0, x.hitShareBits());
        for (int i = 1; i < 60; i++) {
            x.run(only);
            due(Float.floatToIntBits((float) i / (float) (i + 1)), x.hitShareBits());
        }
    }

    private static void lateBinding() {
        promise(21);
        x.addClass(0, -1);
        x.addMethod(0, 0, n(1));
        x.addMethod(0, 1, x.sum(x.send(v(0), 0), n(10)));
        x.addClass(5, 0);
        x.addMethod(1, 0, x.sum(x.send(v(5), 2), n(100)));
        x.addMethod(1, 2, n(7));
        due("n 11", run(x.send(x.make(0), 1)).substring(0, 4));
        due("n 117", run(x.send(x.make(1), 1)).substring(0, 5));
        promise(22);
        x.addClass(0, -1);
        x.addMethod(0, 0, n(1));
        x.addClass(0, 0);
        x.addMethod(1, 0, n(2));
        due("o 1 in 2", run(x.narrow(x.make(1), 1)));
        due("n 2 in 4", run(x.send(x.narrow(x.make(1), 1), 0)));
        // Only the name of the object itself is bound in a method.
        promise(21);
        x.addClass(0, -1);
        x.addMethod(0, 0, v(1));
        int made = x.make(0);
        int inside = x.let(1, n(1), x.send(made, 0));
        due("u@" + made, type(inside));
    }

    private static void wholes() {
        promise(47);
        thrown(ARITHMETIC, () -> x.meanLength());
        int one = n(1);
        due(3.0, x.meanLength());
        v(0);
        x.noCases();
        due(3.0, x.meanLength());
        identity();
        due(5.5, x.meanLength());
        x.addClass(0, -1);
        x.addMethod(0, 0, one);
        due(8.0, x.meanLength());
        x.record();
        x.record();
        due(4.0, x.meanLength());
        promise(48);
        due(true, x.isSound());
        x.addClass(0, -1);
        x.addMethod(0, 0, x.send(v(0), 0));
        x.send(x.make(0), 0);
        x.variant(0, fn(0, x.with(3, n(1), v(0))));
        v(0);
        x.noCases();
        due(true, x.isSound());
        due('-', x.outcome());
    }

    public static void main(String[] arguments) {
        newObject();
        plainTerms();
        parts();
        fullForParts();
        casesAndMatches();
        classes();
        methodsOfClasses();
        typesOfFunctions();
        typesOfLets();
        typesOfRecords();
        typesOfVariants();
        typesOfObjects();
        errors();
        texts();
        general();
        writing();
        reading();
        accepting();
        running();
        results();
        limits();
        caches();
        lateBinding();
        wholes();
        allPromises();
        finish("promises");
    }
}
