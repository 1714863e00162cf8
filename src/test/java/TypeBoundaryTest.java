/** The boundaries of types and of their texts: a test for each sentence of the document that names one. */
public final class TypeBoundaryTest extends Bench {

    // ---- "Types" ----

    private static void rows() {
        sentence(10, "none of the labels that a row variable lacks can stand in the row that it becomes");
        for (int label = 0; label < 10; label++) {
            x = new Rowan();
            int has = x.apply(fn(0, x.with(label, n(1), v(0))), recordOf("0123456789"));
            wrongAt('t', has, has);
            int lacks = x.apply(fn(0, x.with(label, n(1), v(0))), x.without(recordOf("0123456789"), label));
            due("{" + ALL_INTS + "}", type(lacks));
        }
        sentence(12, "the labels ahead of a row variable are lacked by it");
        // Two rows with the same end and another label ahead of it.
        int ends = x.choice(n(0), x.with(1, n(0), v(0)), x.with(2, n(0), v(0)));
        wrongAt('t', ends, fn(0, ends));
        due("{|'0-1} -> {1:int|'0-1}", type(fn(0, x.choice(n(0), x.with(1, n(0), v(0)), x.with(1, n(0), v(0))))));
        sentence(8, "the order of labels does not matter");
        due("{" + ALL_INTS + "}", type(x.choice(n(0), recordOf("0123456789"), recordOf("9876543210"))));
    }

    private static void partsOfThemselves() {
        sentence(5, "no type is a part of itself: a function");
        int itself = x.apply(v(0), v(0));
        wrongAt('t', itself, fn(0, itself));
        int below = x.choice(n(0), v(0), fn(1, v(0)));
        wrongAt('t', below, fn(0, below));
        int right = x.choice(n(0), v(0), fn(1, x.choice(n(0), v(1), v(0))));
        wrongAt('t', right, fn(0, right));
        sentence(10, "no type is a part of itself: a record");
        int record = x.choice(n(0), v(0), x.with(0, v(0), x.record()));
        wrongAt('t', record, fn(0, record));
        int deep = x.choice(n(0), v(0), x.with(0, x.with(9, v(0), x.record()), x.record()));
        wrongAt('t', deep, fn(0, deep));
        sentence(13, "no type is a part of itself: a variant");
        int variant = x.choice(n(0), v(0), x.variant(0, v(0)));
        wrongAt('t', variant, fn(0, variant));
        sentence(21, "no type is a part of itself: an object");
        int object = x.choice(n(0), v(0), x.send(v(0), 0));
        wrongAt('t', object, fn(0, object));
        sentence(12, "no type is a part of itself: a row");
        int row = x.choice(n(0), x.without(v(0), 0), x.get(v(0), 0));
        due("{0:{|'0-0}|'0-0} -> {|'0-0}", type(fn(0, row)));
        int inside = x.choice(n(0), x.without(v(0), 0), x.with(0, x.without(v(0), 0), x.record()));
        wrongAt('t', inside, fn(0, inside));
        sentence(8, "a type is the same as itself");
        due("'0 -> '0", type(fn(0, x.choice(n(0), v(0), v(0)))));
        due("{0:'0|'1-0} -> {0:'0|'1-0}", type(fn(0, x.let(1, x.get(v(0), 0), x.choice(n(0), v(0), v(0))))));
    }

    // ---- "Typing" ----

    private static void namesInTypes() {
        sentence(3, "a term is typed with types for names, at first none");
        for (int name = 0; name < 8; name++) {
            wrongAt('u', name, v(name));
        }
        sentence(4, "the type of a name is a new variable while the body of its function is typed");
        int two = x.apply(v(0), x.record());
        wrongAt('t', two, fn(0, x.with(0, x.apply(v(0), n(1)), x.with(1, two, x.record()))));
        sentence(4, "an inner name hides an outer one, which is back behind it");
        due("'0 -> {0:'1 -> '1,1:'0}", type(fn(0, x.with(0, fn(0, v(0)), x.with(1, v(0), x.record())))));
        due("'0 -> {0:int,1:'0}", type(fn(0, x.with(0, x.let(0, n(1), v(0)), x.with(1, v(0), x.record())))));
        // What was for all is so again, and what hides it is not.
        due("{0:'0 -> '0,1:'1 -> '1,2:'2 -> '2}", type(x.let(0, identity(), x.with(2, fn(0, v(0)), pairOf(0)))));
        due("{0:'0 -> '0,1:'1 -> '1,2:int}", type(x.let(0, identity(), x.with(2, x.let(0, n(1), v(0)), pairOf(0)))));
        due("'0 -> {0:'0,1:'0}", type(x.let(0, identity(), fn(0, pairOf(0)))));
        due("'0 -> {0:'0,1:'0,2:'1 -> '1}",
                type(fn(0, x.with(2, x.let(0, identity(), v(0)), pairOf(0)))));
    }

    private static void matches() {
        sentence(16, "of the cases for one label, the types of the names are made the same");
        due("[2:int] -> int", type(fn(0, x.match(v(0), x.caseFor(2, 1, n(1),
                x.caseFor(2, 1, x.sum(v(1), n(0)), x.noCases()))))));
        int two = x.match(v(0), x.caseFor(2, 1, x.get(v(1), 0), x.caseFor(2, 1, x.sum(v(1), n(0)), x.noCases())));
        wrongAt('t', two, fn(0, two));
        due("[2:int,3:'0] -> int", type(fn(0, x.match(v(0), x.caseFor(2, 1, x.sum(v(1), n(0)),
                x.caseFor(3, 1, n(0), x.noCases()))))));
        sentence(14, "all bodies are made the same");
        int first = x.match(v(0), x.caseFor(2, 1, n(1), x.caseFor(3, 1, x.record(), x.otherCases(1, n(1)))));
        wrongAt('t', first, fn(0, first));
        int last = x.match(v(0), x.caseFor(2, 1, n(1), x.caseFor(3, 1, n(1), x.otherCases(1, x.record()))));
        wrongAt('t', last, fn(0, last));
        int ends = x.match(v(0), x.caseFor(2, 1, n(1), x.caseFor(3, 1, n(1), x.caseFor(4, 1, x.record(), x.noCases()))));
        wrongAt('t', ends, fn(0, ends));
        due("[2:'0,3:'0|'1-23] -> '0 -> '0", type(fn(0, fn(5, x.match(v(0),
                x.caseFor(2, 1, v(1), x.caseFor(3, 1, v(1), x.otherCases(1, v(5)))))))));
        sentence(14, "a closed row, or that row variable if there are all other cases");
        due("[] -> '0", type(fn(0, x.match(v(0), x.noCases()))));
        due("[|'0-] -> [|'0-]", type(fn(0, x.match(v(0), x.otherCases(1, v(1))))));
        due("[1:'0] -> int", type(fn(0, x.match(v(0), x.caseFor(1, 1, n(1), x.noCases())))));
        due("[1:'0|'1-1] -> int", type(fn(0, x.match(v(0), x.caseFor(1, 1, n(1), x.otherCases(1, n(1)))))));
        due("[1:'0,2:int|'1-12] -> [2:int|'1-12]", type(fn(0, x.match(v(0),
                x.caseFor(1, 1, x.variant(2, n(1)), x.otherCases(1, v(1)))))));
    }

    private static void mostGeneral() {
        sentence(24, "it is done in the most general way");
        // Two rows that get the same end: each has the labels of both, and nothing else is told of the rest.
        due("{0:'0,1:'1|'2-01} -> {0:'0,1:'1|'2-01} -> {0:'0,1:'1|'2-01}", type(fn(0, fn(1, x.let(2,
                x.with(0, x.get(v(0), 0), x.with(1, x.get(v(1), 1), x.record())),
                x.choice(n(0), v(0), v(1)))))));
        due("('0 -> '1) -> ('2 -> '0) -> '2 -> '1", type(fn(0, fn(1, fn(2, x.apply(v(0), x.apply(v(1), v(2))))))));
        due("[0:'0,1:'1|'2-01] -> [0:'0,1:'1|'2-01]", typeAfter(() -> fn(0, x.choice(n(0), v(0),
                x.match(v(0), x.caseFor(0, 1, x.variant(0, v(1)), x.caseFor(1, 1, x.variant(1, v(1)),
                        x.otherCases(1, v(0)))))))));
    }

    private static void narrowed() {
        sentence(22, "with these labels, of new types, and a new row variable");
        due("<0:'0,9:'1|'2-09> -> <0:'0,9:'1>", type(fn(0, x.narrow(v(0), 513))));
        due("<0:'0|'1-0> -> <2:'2|'3-2> -> {0:<0:'0>,1:<2:'2>}", type(fn(0, fn(1,
                x.with(0, x.narrow(v(0), 1), x.with(1, x.narrow(v(1), 4), x.record()))))));
        sentence(24, "a term without a type leaves the types of others as they are");
        due('u', x.error(x.let(0, identity(), fn(1, x.sum(n(1), v(7))))));
        due("'0 -> {0:'0,1:'0}", type(fn(0, pairOf(0))));
        wrongAt('u', x.terms(), v(0));
        due('t', x.error(fn(0, x.match(v(0), x.caseFor(0, 1, x.sum(v(1), x.record()), x.noCases())))));
        due("{0:'0 -> '0,1:'1 -> '1}", type(x.let(1, identity(), pairOf(1))));
    }


    /** The type of a pair of a name that is let be a term. */
    private static String pairLet(Call bound) {
        return typeAfter(() -> x.let(0, (Integer) bound.answer(), pairOf(0)));
    }

    /** What has the type of a term that is a value, but is none. */
    private static int noValue(int term) {
        return x.apply(identity(), term);
    }

    private static void values() {
        sentence(6, "values are names, functions, records with a label more and variants whose parts are values");
        due("{0:'0 -> '0,1:'1 -> '1}", pairLet(() -> identity()));
        due("{0:'0 -> '0,1:'1 -> '1}", typeAfter(() -> x.let(1, identity(), x.let(0, v(1), pairOf(0)))));
        due("{0:{2:'0 -> '0},1:{2:'1 -> '1}}", pairLet(() -> x.with(2, identity(), x.record())));
        due("{0:[2:'0 -> '0|'1-2],1:[2:'2 -> '2|'3-2]}", pairLet(() -> x.variant(2, identity())));
        due("{0:{2:{},3:'0 -> '0},1:{2:{},3:'1 -> '1}}",
                pairLet(() -> x.with(2, x.record(), x.with(3, identity(), x.record()))));
        due("{0:{2:int,3:'0 -> '0},1:{2:int,3:'1 -> '1}}",
                pairLet(() -> x.with(2, n(1), x.with(3, identity(), x.record()))));
        sentence(6, "other terms, and records and variants with a part that is none, are no values");
        String one = "{0:'0 -> '0,1:'0 -> '0}";
        due(one, pairLet(() -> noValue(identity())));
        due(one, pairLet(() -> x.let(1, identity(), v(1))));
        due(one, pairLet(() -> x.choice(n(0), identity(), identity())));
        due(one, pairLet(() -> x.get(x.with(2, identity(), x.record()), 2)));
        due(one, pairLet(() -> x.match(x.variant(2, identity()), x.caseFor(2, 1, v(1), x.noCases()))));
        due(one, pairLet(() -> {
            classOf(1, -1, identity());
            return x.send(x.make(0), 0);
        }));
        due("{0:<0:'0 -> '0>,1:<0:'0 -> '0>}", pairLet(() -> {
            classOf(1, -1, identity());
            return x.make(0);
        }));
        due("{0:<0:'0 -> '0>,1:<0:'0 -> '0>}", pairLet(() -> {
            classOf(1, -1, identity(), n(1));
            return x.narrow(x.make(0), 1);
        }));
        due("{0:{3:'0 -> '0},1:{3:'0 -> '0}}",
                pairLet(() -> x.without(x.with(2, n(1), x.with(3, identity(), x.record())), 2)));
        due("{0:{2:'0 -> '0},1:{2:'0 -> '0}}", pairLet(() -> x.with(2, noValue(identity()), x.record())));
        due("{0:{2:'0 -> '0},1:{2:'0 -> '0}}", pairLet(() -> x.with(2, identity(), noValue(x.record()))));
        due("{0:[2:'0 -> '0|'1-2],1:[2:'0 -> '0|'2-2]}", pairLet(() -> x.variant(2, noValue(identity()))));
    }

    /** A function to int of what another term is: the type of this one stands one left side further in. */
    private static int takes(int name, int like) {
        return fn(name, x.let(6, x.choice(n(0), v(name), like), n(0)));
    }

    /** A pair of a type with the row variable '0, and once more with this row variable. */
    private static String twice(String type, int again) {
        String one = type.replace("R", "[0:int|'0-0]");
        return "{0:" + one + ",1:" + one.replace("'0", "'" + again) + "}";
    }

    private static void leftSides() {
        sentence(6, "those that stand on no left side of a function, or on left sides of left sides only, and so on");
        due(twice("R", 1), pairLet(() -> noValue(opened())));
        due(twice("R -> int", 0), pairLet(() -> noValue(takes(1, opened()))));
        due(twice("(R -> int) -> int", 1), pairLet(() -> noValue(takes(2, takes(1, opened())))));
        due(twice("((R -> int) -> int) -> int", 0), pairLet(() -> noValue(takes(3, takes(2, takes(1, opened()))))));
        due(twice("(((R -> int) -> int) -> int) -> int", 1), pairLet(() ->
                noValue(takes(4, takes(3, takes(2, takes(1, opened())))))));
        due(twice("int -> R", 1), pairLet(() -> noValue(fn(1, x.let(2, x.sum(v(1), n(0)), opened())))));
        due(twice("(int -> R) -> int", 0), pairLet(() ->
                noValue(takes(3, fn(1, x.let(2, x.sum(v(1), n(0)), opened()))))));
        due("{0:'0 -> int,1:'0 -> int}", pairLet(() -> noValue(fn(1, n(0)))));
        sentence(6, "on left sides of left sides only: not on another left side, too");
        // '0 is the result of the argument, and the result of the whole: on a left side, and on none.
        due("{0:(int -> '0) -> '0,1:(int -> '0) -> '0}", pairLet(() -> noValue(fn(1, x.apply(v(1), n(1))))));
        // '0 is the argument's argument, and the second argument: on a left side of a left side, and on a left side.
        due("{0:('0 -> '1) -> '0 -> '1,1:('0 -> '1) -> '0 -> '1}", pairLet(() ->
                noValue(fn(1, fn(2, x.apply(v(1), v(2)))))));
        sentence(6, "of a record, a variant, an object: no side");
        due("{0:{2:'0 -> int,3:[0:int|'1-0]},1:{2:'0 -> int,3:[0:int|'2-0]}}", pairLet(() ->
                noValue(x.with(2, fn(1, n(0)), x.with(3, x.variant(0, n(1)), x.record())))));
    }

    private static void namesOfLets() {
        sentence(6, "that are in no type of a name at that place");
        due("'0 -> {0:'1 -> '0,1:'2 -> '0}", typeAfter(() -> fn(3, x.let(0, fn(2, v(3)), pairOf(0)))));
        due("{|'0-4} -> {0:{4:int|'0-4},1:{4:int|'0-4}}", typeAfter(() ->
                fn(3, x.let(0, x.with(4, n(1), v(3)), pairOf(0)))));
        due("'0 -> {0:'1 -> '1,1:'2 -> '2}", typeAfter(() -> fn(3, x.let(0, identity(), pairOf(0)))));
        sentence(6, "that of the same name as it was ahead of the let included");
        due("'0 -> {0:'1 -> '0,1:'2 -> '0}", typeAfter(() -> fn(0, x.let(0, fn(2, v(0)), pairOf(0)))));
        due("'0 -> {0:'0,1:'0}", typeAfter(() -> fn(0, x.let(0, v(0), pairOf(0)))));
        due("{|'0-4} -> {0:{4:int|'0-4},1:{4:int|'0-4}}", typeAfter(() ->
                fn(0, x.let(0, x.with(4, n(1), v(0)), pairOf(0)))));
        sentence(6, "a name that a case binds is a name at that place");
        due("{0:int,1:int}", typeAfter(() -> x.match(x.variant(1, n(2)),
                x.caseFor(1, 3, x.let(0, v(3), pairOf(0)), x.noCases()))));
        due("[1:'0] -> {0:'1 -> '0,1:'2 -> '0}", typeAfter(() -> fn(5, x.match(v(5),
                x.caseFor(1, 3, x.let(0, fn(2, v(3)), pairOf(0)), x.noCases())))));
        due("[|'0-] -> {0:[|'0-],1:[|'0-]}", typeAfter(() ->
                fn(5, x.match(v(5), x.otherCases(3, x.let(0, v(3), pairOf(0)))))));
        sentence(6, "the name of the object itself is a name at that place");
        classOf(0, -1, x.let(1, v(0), x.with(0, x.send(v(1), 1), x.with(1, x.send(v(1), 1), x.record()))),
                identity());
        due("<0:{0:'0 -> '0,1:'0 -> '0},1:'0 -> '0>", type(x.make(0)));
        sentence(6, "a let binds its name while its body is typed");
        int bound = v(0);
        wrongAt('u', bound, x.let(0, bound, n(1)));
        int behind = v(0);
        wrongAt('u', behind, x.sum(x.let(0, n(1), v(0)), behind));
    }

    // ---- "Typing of classes" ----

    private static void typesOfClasses() {
        sentence(20, "for each method, by rising labels, its body is typed");
        x.addClass(0, -1);
        x.addMethod(0, 9, v(5));
        x.addMethod(0, 4, x.get(n(0), 0));
        int object = x.make(0);
        wrongAt('t', object, object);
        x.addClass(0, -1);
        x.addMethod(1, 9, x.get(n(0), 0));
        x.addMethod(1, 4, v(5));
        object = x.make(1);
        wrongAt('u', object, object);
        sentence(20, "only the name of the object itself has a type");
        for (int name = 0; name < 8; name++) {
            x = new Rowan();
            classOf(3, -1, x.let(6, v(name), n(1)));
            int made = x.make(0);
            int whole = name == 3 ? made : x.let(name, n(1), made);
            due(name == 3 ? "<0:int>" : "u@" + made, type(whole));
        }
        sentence(20, "for all variables in the end");
        classOf(0, -1, identity());
        due("int", type(x.apply(x.send(x.make(0), 0), n(1))));
        due("{}", type(x.apply(x.send(x.make(0), 0), x.record())));
        due("int", type(x.let(1, x.apply(x.send(x.make(0), 0), n(1)), x.apply(x.send(x.make(0), 0), v(1)))));
        sentence(20, "a closed row with the labels of all methods");
        classOf(0, -1, x.sum(x.send(v(0), 1), n(1)));
        int lacking = x.make(0);
        wrongAt('t', lacking, lacking);
        x.addClass(0, 0);
        x.addMethod(1, 1, n(1));
        due("<0:int,1:int>", type(x.make(1)));
        x.addClass(0, 0);
        x.addMethod(2, 2, n(1));
        lacking = x.make(2);
        wrongAt('t', lacking, lacking);
        sentence(20, "a method must have the type of that of a parent for the same label");
        classOf(0, -1, n(1), identity());
        classOf(0, 0, n(2), fn(1, x.sum(v(1), n(1))));
        due("<0:int,1:int -> int>", type(x.make(1)));
        due("<0:int,1:'0 -> '0>", type(x.make(0)));
        classOf(0, 1, x.record());
        lacking = x.make(2);
        wrongAt('t', lacking, lacking);
        classOf(0, 1, n(3), fn(1, x.record()));
        lacking = x.make(3);
        wrongAt('t', lacking, lacking);
        due("<0:int,1:int -> int>", type(x.make(1)));
    }

    private static void errorsOfClasses() {
        sentence(25, "the error of a class is one at the term that makes the new object");
        classOf(0, -1, v(5));
        int inner = x.variant(0, x.make(0));
        wrongAt('u', inner - 1, inner);
        classOf(0, -1, inner);
        int outer = x.variant(0, x.make(1));
        wrongAt('u', outer - 1, outer);
        sentence(25, "the error of a parent is one of its heirs");
        classOf(0, -1, v(5));
        classOf(0, 0, n(1));
        classOf(0, 1, n(2));
        int heir = x.make(2);
        wrongAt('u', heir, fn(0, heir));
        sentence(25, "a class that is never made has no error to be told");
        classOf(0, -1, v(5));
        due('-', x.error(n(1)));
        due(true, x.isSound());
    }

    // ---- "Errors" ----

    private static void parts(char due, int functions, Call inner) {
        x = new Rowan();
        due(due, x.error(functions(functions, (Integer) inner.answer())));
    }

    private static void sizes() {
        sentence(24, "more than 100 parts: int");
        parts('-', 49, () -> n(0));
        parts('s', 50, () -> n(0));
        sentence(24, "more than 100 parts: each variable, and each function");
        parts('-', 48, () -> identity());
        parts('s', 49, () -> identity());
        sentence(24, "more than 100 parts: each row");
        parts('-', 49, () -> x.record());
        parts('s', 50, () -> x.record());
        parts('-', 48, () -> recordOf("9"));
        parts('s', 49, () -> x.with(0, x.record(), x.record()));
        parts('-', 48, () -> object());
        parts('s', 49, () -> object());
        sentence(24, "more than 100 parts: each label");
        parts('-', 47, () -> recordOf("19"));
        parts('s', 48, () -> recordOf("19"));
        parts('-', 39, () -> recordOf("0123456789"));
        parts('s', 40, () -> recordOf("0123456789"));
        sentence(24, "more than 100 parts: each row variable");
        parts('-', 48, () -> x.variant(0, n(1)));
        parts('s', 49, () -> x.variant(0, n(1)));
        parts('-', 46, () -> x.variant(0, x.variant(1, n(1))));
        parts('s', 47, () -> x.variant(0, x.variant(1, n(1))));
        sentence(24, "the end of a closed row is no part");
        parts('-', 47, () -> x.with(0, x.with(1, x.record(), x.record()), x.record()));
        parts('s', 48, () -> x.with(0, x.with(1, x.record(), x.record()), x.record()));
    }

    private static void sizesInside() {
        sentence(25, "the type of a term in it has more than 100 parts");
        int large = x.with(1, n(1), x.with(0, functions(48, x.variant(0, n(1))), x.record()));
        int small = x.get(large, 1);
        wrongAt('s', large - 1, small);
        sentence(25, "as soon as this term has been typed");
        // The type of the identity gets larger later: 201 parts.
        due('-', x.error(x.apply(identity(), functions(48, x.variant(0, n(1))))));
        promise(25);
        int tooLarge = functions(49, x.variant(0, n(1)));
        wrongAt('s', tooLarge, x.apply(identity(), tooLarge));
        sentence(25, "the type of an object can be too large where those of its methods are not");
        // The row, two labels, and 63 and 34 parts.
        classOf(0, -1, functions(31, n(0)), functions(15, opened()));
        due('-', x.error(x.make(0)));
        promise(25);
        classOf(0, -1, functions(31, n(0)), functions(17, n(1)));
        int object = x.make(0);
        int field = x.send(object, 0);
        wrongAt('s', object, field);
        sentence(25, "the first error that comes: types that cannot be made the same come ahead of the size");
        int both = x.with(0, functions(48, opened()), n(0));
        wrongAt('t', both, both);
    }

    /** Three terms with an error each, of which the first one is told. */
    private static void order(int promise, String what, Call whole, int first) {
        sentence(promise, "the first error is that of the first part: " + what);
        wrongAt('u', first, (Integer) whole.answer());
    }

    private static void orderOfErrors() {
        order(5, "apply", () -> x.apply(v(0), v(1)), 0);
        order(6, "let", () -> x.let(2, v(0), v(1)), 0);
        order(7, "sum", () -> x.sum(v(0), v(1)), 0);
        order(8, "choice", () -> x.choice(v(0), v(1), v(2)), 0);
        order(8, "choice, the second", () -> x.choice(n(0), v(1), v(2)), 1);
        order(10, "with", () -> x.with(0, v(0), v(1)), 0);
        order(14, "match", () -> x.match(v(0), x.otherCases(1, v(2))), 0);
        order(16, "case", () -> x.match(n(0), x.caseFor(0, 1, v(0), x.otherCases(1, v(2)))), 1);
        order(16, "further case", () -> x.match(n(0), x.caseFor(0, 1, n(0), x.otherCases(1, v(2)))), 2);
        sentence(5, "the first error is that of the first part, not of the term that was made first");
        int late = v(0);
        int early = v(1);
        wrongAt('u', early, x.apply(early, late));
        sentence(24, "first its parts, then by its own rule");
        int last = v(1);
        wrongAt('u', last, x.apply(n(0), last));
        last = v(1);
        wrongAt('u', last, x.sum(x.record(), last));
        last = v(1);
        wrongAt('u', last, x.choice(x.record(), n(0), last));
        last = v(1);
        wrongAt('u', last, x.choice(n(0), x.record(), x.sum(n(0), last)));
        last = v(1);
        wrongAt('u', last, x.match(n(0), x.caseFor(0, 1, n(0), x.caseFor(1, 0, x.record(), x.otherCases(0, last)))));
        sentence(24, "the error of a term that is typed by itself");
        int name = v(0);
        int whole = fn(0, name);
        due('u', x.error(name));
        due('-', x.error(whole));
        due("'0 -> '0", type(whole));
    }

    // ---- "Text" ----

    private static void texts() {
        sentence(27, "a function as its first type, in brackets if it is a function");
        due("('0 -> '1) -> '0 -> '1", type(fn(0, fn(1, x.apply(v(0), v(1))))));
        due("(('0 -> '0) -> '1) -> '1", type(fn(0, x.apply(v(0), identity()))));
        due("{1:'0 -> '0} -> int", type(fn(0, x.let(1, x.choice(n(0), v(0), x.with(1, identity(), x.record())), n(0)))));
        sentence(27, "a record, a variant or an object with a row in { }, [ ] or < >");
        due("{1:int}", type(recordOf("1")));
        due("[1:int|'0-1]", type(x.variant(1, n(1))));
        due("<0:int>", type(object()));
        sentence(27, "its labels by rising numbers, with \",\" between them");
        due("{0:int,5:int,9:int}", type(recordOf("950")));
        due("{0:int,5:int,9:int}", type(recordOf("509")));
        sentence(27, "if it is not closed, \"|\" and its row variable, also without labels");
        due("{|'0-9} -> {9:int|'0-9}", type(fn(0, x.with(9, n(1), v(0)))));
        due("[|'0-] -> int", type(fn(0, x.match(v(0), x.otherCases(1, n(1))))));
        due("<|'0-> -> <>", type(fn(0, x.narrow(v(0), 0))));
        sentence(27, "the labels that it lacks, by rising numbers");
        due("{1:'0,4:'1,8:'2|'3-148} -> {|'3-148}",
                type(fn(0, x.without(x.without(x.without(v(0), 4), 8), 1))));
        sentence(27, "0 for the first variable in the text, 1 for the next one that is another one");
        due("'0 -> '1 -> '1 -> '0", type(fn(0, fn(1, fn(2, x.let(3, x.choice(n(0), v(1), v(2)), v(0)))))));
        due("{0:'0|'1-0} -> '2 -> {0:'2|'1-0}",
                type(fn(0, fn(1, x.with(0, v(1), x.without(v(0), 0))))));
        sentence(27, "an example is");
        due("{0:int,3:'0|'1-03} -> '0", type(fn(0, x.let(1, x.sum(x.get(v(0), 0), n(1)), x.get(v(0), 3)))));
    }

    private static void longTexts() {
        sentence(27, "numbers with two digits");
        classOf(0, -1, x.send(v(0), 0));
        int whole = functions(49, x.send(x.make(0), 0));
        StringBuilder due = new StringBuilder();
        for (int i = 0; i < 49; i++) {
            due.append('\'').append(i).append(" -> ");
        }
        due.append("'49");
        due(due.toString(), type(whole));
        due(50, x.variables(whole));
        due(true, x.isGeneral(whole, whole));
        due(true, x.isSound());
        sentence(27, "the index, from 0");
        int number = n(1);
        due('i', x.typeAt(number, 0));
        due('t', x.typeAt(number, 2));
        thrown(ELEMENT, () -> x.typeAt(number, -1));
        thrown(ELEMENT, () -> x.typeAt(number, 3));
        int any = identity();
        due(8, x.typeLength(any));
        due('0', x.typeAt(any, 7));
        thrown(ELEMENT, () -> x.typeAt(any, 8));
        sentence(26, "the number of characters of the text");
        due(3, x.typeLength(n(1)));
        due(2, x.typeLength(x.record()));
        due("'0 -> '0".length(), x.typeLength(identity()));
        due(("{" + ALL_INTS + "}").length(), x.typeLength(recordOf("0123456789")));
        sentence(28, "the number of variables, row variables included");
        due(0, x.variables(n(1)));
        due(0, x.variables(x.record()));
        due(1, x.variables(identity()));
        due(1, x.variables(x.variant(0, n(1))));
        due(1, x.variables(fn(0, x.with(0, n(1), v(0)))));
        due(2, x.variables(fn(0, x.get(v(0), 0))));
    }

    public static void main(String[] arguments) {
        rows();
        partsOfThemselves();
        namesInTypes();
        matches();
        mostGeneral();
        narrowed();
        values();
        leftSides();
        namesOfLets();
        typesOfClasses();
        errorsOfClasses();
        sizes();
        sizesInside();
        orderOfErrors();
        texts();
        longTexts();
        finish("boundaries of types");
    }
}
