/** The boundaries of terms, cases and classes: a test for each sentence of the document that names one. */
public final class TermBoundaryTest extends Bench {

    // ---- The public face, and "Terms" ----

    private static void newObjects() {
        sentence(1, "an object is used for at most 512 calls");
        for (int i = 1; i <= 80; i++) {
            n(i);
        }
        for (int i = 82; i < 512; i++) {
            x.run(i % 80);
        }
        due(1, x.run(79));
        due(80, x.result());
        sentence(1, "a language without terms and classes");
        due(0, x.terms());
        due('-', x.outcome());
        due(true, x.isSound());
        due(false, x.isType());
        due(0, x.erase());
        thrown(INDEX, () -> x.error(0));
        thrown(ELEMENT, () -> x.make(0));
        thrown(ELEMENT, () -> x.methods(0));
        thrown(ELEMENT, () -> x.addClass(0, 0));
        due(0, n(5));
        due(0, x.addClass(0, -1));
        due(0, new Rowan().terms());
    }

    private static void terms() {
        sentence(2, "at most 80 terms are numbered from 0");
        for (int i = 0; i < 80; i++) {
            due(i, x.terms());
            due(i, n(i));
        }
        due(80, x.terms());
        thrown(STATE, () -> n(80));
        due("n 79 in 1", run(79));
        thrown(INDEX, () -> x.run(80));
        sentence(23, "the number of terms, cases included, but no classes and no methods");
        int none = x.noCases();
        due(1, x.terms());
        int cases = x.caseFor(0, 0, v(0), none);
        due(3, x.terms());
        x.match(x.variant(0, n(1)), cases);
        due(6, x.terms());
        x.addClass(0, -1);
        due(6, x.terms());
        x.addMethod(0, 0, n(2));
        due(7, x.terms());
        x.run(x.send(x.make(0), 0));
        due(9, x.terms());
        sentence(2, "the number");
        for (int value : new int[] {MIN, MIN + 1, -1, 0, 1, MAX - 1, MAX}) {
            due("n " + value + " in 1", run(n(value)));
        }
        sentence(4, "a term can be a part of one other term, or of one method, only");
        x.addClass(0, -1);
        x.addClass(0, -1);
        int part = n(1);
        int body = n(2);
        due(2, fn(0, part));
        due(1, x.addMethod(0, 0, body));
        thrown(UNSUPPORTED, () -> x.addMethod(0, 1, part));
        thrown(UNSUPPORTED, () -> fn(0, part));
        thrown(UNSUPPORTED, () -> fn(0, body));
        thrown(UNSUPPORTED, () -> x.addMethod(0, 1, body));
        thrown(UNSUPPORTED, () -> x.addMethod(1, 0, body));
        due(3, fn(0, 2));
        thrown(UNSUPPORTED, () -> fn(0, 2));
    }

    private static void namesAndLabels() {
        sentence(3, "there are the names 0 to 7");
        for (int bound = 0; bound < 8; bound++) {
            x = new Rowan();
            for (int used = 0; used < 8; used++) {
                int name = v(used);
                due(bound == used ? "'0 -> '0" : "u@" + name, type(fn(bound, name)));
            }
        }
        sentence(11, "there are the labels 0 to 9");
        for (int had = 0; had < 10; had++) {
            x = new Rowan();
            for (int wanted = 0; wanted < 10; wanted++) {
                int got = x.get(x.with(had, n(7), x.record()), wanted);
                due(had == wanted ? "int" : "t@" + got, type(got));
            }
        }
    }

    private static void records() {
        sentence(8, "its second part if its first one is not 0, and its third one otherwise");
        for (int first : new int[] {MIN, -1, 1, 2, 256, 65536, MAX}) {
            due("n 2 in 3", run(x.choice(n(first), n(2), n(3))));
        }
        due("n 3 in 3", run(x.choice(n(0), n(2), n(3))));
        sentence(9, "the empty record");
        int empty = x.record();
        due("{}", type(empty));
        due("r in 1", run(empty));
        for (int i = 0; i < 10; i++) {
            int label = i;
            thrown(ELEMENT, () -> x.resultField(label));
        }
        sentence(12, "the empty record has no label that it could be without");
        for (int label = 0; label < 10; label++) {
            int less = x.without(x.record(), label);
            wrongAt('t', less, less);
        }
        sentence(11, "the empty record has nothing for a label");
        for (int label = 0; label < 10; label++) {
            int had = x.get(x.record(), label);
            wrongAt('t', had, had);
        }
    }

    private static void allLabels() {
        sentence(10, "a record with all labels");
        int all = recordOf("5093617428");
        due("{" + ALL_INTS + "}", type(all));
        due("r in 21", run(all));
        for (int label = 0; label < 10; label++) {
            due(label, x.resultField(label));
        }
        sentence(10, "a row variable can lack all labels");
        int record = v(0);
        for (int label = 9; label >= 0; label--) {
            record = x.with(label, n(label), record);
        }
        due("{|'0-0123456789} -> {" + ALL_INTS + "|'0-0123456789}", type(fn(0, record)));
        sentence(10, "a label that a record has cannot be put in");
        for (int label = 0; label < 10; label++) {
            x = new Rowan();
            int twice = x.with(label, n(1), recordOf("0123456789"));
            wrongAt('t', twice, twice);
            int once = x.with(label, n(1), x.without(recordOf("0123456789"), label));
            due("{" + ALL_INTS + "}", type(once));
        }
        sentence(12, "a record without its only label is the empty one");
        for (int i = 0; i < 10; i++) {
            int label = i;
            int empty = x.without(x.with(label, n(1), x.record()), label);
            due("{}", type(empty));
            due("r in 4", run(empty));
            thrown(ELEMENT, () -> x.resultField(label));
        }
    }

    // ---- "Cases" ----

    private static void cases() {
        sentence(15, "no cases are a term, too, but have no type");
        int none = x.noCases();
        due(1, x.terms());
        thrown(INDEX, () -> x.error(none));
        sentence(14, "a match without any case");
        int nothing = fn(0, x.match(v(0), x.noCases()));
        due("[] -> '0", type(nothing));
        due("f in 1", run(nothing));
        int missed = x.match(x.variant(0, n(1)), x.noCases());
        wrongAt('t', missed, missed);
        sentence(16, "a match takes the first case for the label of the variant");
        int first = x.caseFor(2, 1, n(10), x.caseFor(3, 1, n(11), x.caseFor(2, 1, n(12), x.noCases())));
        due("n 10 in 4", run(x.match(x.variant(2, n(1)), first)));
        int second = x.caseFor(3, 1, n(10), x.caseFor(2, 1, n(11), x.caseFor(2, 1, n(12), x.noCases())));
        due("n 11 in 4", run(x.match(x.variant(2, n(1)), second)));
        int other = x.caseFor(3, 1, n(10), x.otherCases(1, n(11)));
        due("n 11 in 4", run(x.match(x.variant(2, n(1)), other)));
        int notOther = x.caseFor(2, 1, n(10), x.otherCases(1, n(11)));
        due("n 10 in 4", run(x.match(x.variant(2, n(1)), notOther)));
        sentence(16, "cases for all labels");
        for (int label = 0; label < 10; label++) {
            x = new Rowan();
            int whole = x.match(x.variant(label, n(5)), casesFor("7140362958", x.noCases()));
            due("int", type(whole));
            due("n " + label + " in 4", run(whole));
        }
        due("[0:'0,1:'1,2:'2,3:'3,4:'4,5:'5,6:'6,7:'7,8:'8,9:'9] -> int", typeAfter(() ->
                fn(0, x.match(v(0), casesFor("7140362958", x.noCases())))));
        sentence(17, "all other cases behind cases for all labels");
        due("[0:'0,1:'1,2:'2,3:'3,4:'4,5:'5,6:'6,7:'7,8:'8,9:'9|'10-0123456789] -> int", typeAfter(() ->
                fn(0, x.match(v(0), casesFor("7140362958", x.otherCases(0, n(0)))))));
        sentence(17, "all other cases bind a name to the variant itself");
        int itself = x.match(x.variant(9, n(5)), x.otherCases(0, v(0)));
        due("[9:int|'0-9]", type(itself));
        due("v 9 in 4", run(itself));
        int again = x.match(x.variant(9, n(5)), x.otherCases(0, v(0)));
        due("n 5 in 6", run(x.match(again, x.caseFor(9, 0, v(0), x.otherCases(1, n(0))))));
    }

    private static void namesOfCases() {
        sentence(16, "a case binds a name to the value of the variant in a body");
        due("n 5 in 4", run(x.match(x.variant(0, n(5)), x.caseFor(0, 7, v(7), x.noCases()))));
        // The outer name is back in the further cases, and behind the match.
        due("n 8 in 6", run(x.let(0, n(8), x.match(x.variant(1, n(5)),
                x.caseFor(0, 0, n(1), x.caseFor(1, 1, v(0), x.noCases()))))));
        due("n 8 in 6", run(x.let(0, n(8), x.match(x.variant(1, n(5)),
                x.caseFor(0, 0, n(1), x.otherCases(1, v(0)))))));
        due("n 13 in 8", run(x.let(0, n(8), x.sum(x.match(x.variant(1, n(5)), x.caseFor(1, 0, v(0), x.noCases())),
                v(0)))));
        sentence(16, "a case binds its name in its own body only");
        int further = v(2);
        int whole = fn(0, x.match(v(0), x.caseFor(0, 2, n(0), x.caseFor(1, 3, further, x.noCases()))));
        wrongAt('u', further, whole);
        int others = v(2);
        whole = fn(0, x.match(v(0), x.caseFor(0, 2, n(0), x.otherCases(3, others))));
        wrongAt('u', others, whole);
        int behind = v(2);
        whole = x.sum(x.match(x.variant(0, n(5)), x.otherCases(2, n(1))), behind);
        wrongAt('u', behind, whole);
    }

    // ---- "Classes" ----

    private static void classes() {
        sentence(18, "at most 8 classes are numbered from 0");
        for (int i = 0; i < 8; i++) {
            due(i, x.addClass(i, -1));
        }
        thrown(STATE, () -> x.addClass(0, -1));
        thrown(STATE, () -> x.addClass(0, 7));
        due(0, x.methods(7));
        thrown(ELEMENT, () -> x.methods(8));
        sentence(18, "a parent is a class with a lower number");
        thrown(ELEMENT, () -> x.addClass(0, 0));
        due(0, x.addClass(0, -1));
        thrown(ELEMENT, () -> x.addClass(0, 1));
        due(1, x.addClass(0, 0));
        thrown(ELEMENT, () -> x.addClass(0, 2));
        due(2, x.addClass(0, 1));
        sentence(19, "methods for labels, at most one for each");
        x.addClass(0, -1);
        for (int i = 0; i < 10; i++) {
            int label = i;
            due(i + 1, x.addMethod(0, label, n(label)));
            int again = n(0);
            thrown(STATE, () -> x.addMethod(0, label, again));
        }
        due(10, x.methods(0));
        due("<" + ALL_INTS + ">", type(x.make(0)));
        for (int label = 0; label < 10; label++) {
            due("n " + label + " in 3", run(x.send(x.make(0), label)));
        }
        sentence(19, "the number of methods of the class itself");
        classOf(0, -1, n(1), n(2), n(3));
        x.addClass(0, 0);
        due(1, x.addMethod(1, 0, n(4)));
        due(2, x.addMethod(1, 9, n(5)));
        due(4, x.methods(1));
    }

    private static void heirs() {
        sentence(34, "the number of methods, those of its parents included");
        for (int clazz = 0; clazz < 8; clazz++) {
            x.addClass(0, clazz - 1);
            due(clazz == 0 ? 0 : clazz + 1, x.methods(clazz));
            x.addMethod(clazz, clazz, n(clazz));
            due(clazz == 0 ? 1 : clazz + 2, x.methods(clazz));
            x.addMethod(clazz, 9, n(10 + clazz));
            due(clazz + 2, x.methods(clazz));
        }
        sentence(35, "for other labels, a class has the methods of its parent");
        for (int clazz = 0; clazz < 8; clazz++) {
            x.addClass(0, clazz - 1);
            x.addMethod(clazz, clazz, n(clazz));
            if (clazz == 0 || clazz == 5) {
                x.addMethod(clazz, 9, n(10 + clazz));
            }
        }
        for (int clazz = 0; clazz < 8; clazz++) {
            for (int i = 0; i < 10; i++) {
                int each = clazz;
                int label = i;
                if (label > clazz && label < 9) {
                    thrown(ELEMENT, () -> x.methodOf(each, label));
                } else {
                    due(label < 9 ? label : clazz < 5 ? 0 : 5, x.methodOf(clazz, label));
                }
            }
        }
        due("n 0 in 3", run(x.send(x.make(7), 0)));
        due("n 7 in 3", run(x.send(x.make(7), 7)));
        due("n 15 in 3", run(x.send(x.make(7), 9)));
        due("n 10 in 3", run(x.send(x.make(4), 9)));
    }

    private static void emptyClasses() {
        sentence(20, "a class without methods");
        x.addClass(0, -1);
        x.addClass(0, 0);
        for (int clazz = 0; clazz < 2; clazz++) {
            due(0, x.methods(clazz));
            due("<>", type(x.make(clazz)));
            due("o " + clazz + " in 1", run(x.make(clazz)));
            due("<>", type(x.narrow(x.make(clazz), 0)));
            due("o " + clazz + " in 2", run(x.narrow(x.make(clazz), 0)));
            for (int label = 0; label < 10; label++) {
                int sent = x.send(x.make(clazz), label);
                wrongAt('t', sent, sent);
            }
        }
        sentence(22, "an object as one with no labels, and with all");
        classOf(0, -1, n(0), n(1), n(2), n(3), n(4), n(5), n(6), n(7), n(8), n(9));
        due("<>", type(x.narrow(x.make(0), 0)));
        due("<" + ALL_INTS + ">", type(x.narrow(x.make(0), 1023)));
        for (int label = 0; label < 10; label++) {
            due("<" + label + ":int>", type(x.narrow(x.make(0), 1 << label)));
            int lost = x.send(x.narrow(x.make(0), 1023 - (1 << label)), label);
            wrongAt('t', lost, lost);
        }
        sentence(22, "an object has to have all labels that it is to have");
        for (int label = 0; label < 10; label++) {
            x = new Rowan();
            x.addClass(0, -1);
            for (int each = 0; each < 10; each++) {
                if (each != label) {
                    x.addMethod(0, each, n(each));
                }
            }
            int whole = x.narrow(x.make(0), 1023);
            wrongAt('t', whole, whole);
            due('-', x.error(x.narrow(x.make(0), 1023 - (1 << label))));
        }
    }

    private static void completeClasses() {
        sentence(19, "bodies of methods can make objects of classes with lower numbers");
        for (int i = 0; i < 3; i++) {
            x.addClass(0, -1);
        }
        int zero = x.make(0);
        int one = x.variant(0, x.make(1));
        int two = fn(0, x.match(v(0), x.caseFor(1, 1, x.make(2), x.noCases())));
        thrown(UNSUPPORTED, () -> x.addMethod(0, 0, zero));
        thrown(UNSUPPORTED, () -> x.addMethod(0, 0, one));
        thrown(UNSUPPORTED, () -> x.addMethod(1, 0, two));
        x.addClass(0, -1);
        thrown(UNSUPPORTED, () -> x.addMethod(2, 0, two));
        due(1, x.addMethod(3, 2, two));
        due(2, x.addMethod(3, 1, one));
        due(3, x.addMethod(3, 0, zero));
        sentence(19, "a class that is a parent gets no more methods");
        x.addClass(0, -1);
        due(1, x.addMethod(0, 0, n(0)));
        x.addClass(0, 0);
        int more = n(1);
        thrown(STATE, () -> x.addMethod(0, 1, more));
        due(1, x.addMethod(1, 1, more));
        sentence(19, "a class of which a new object is made by a term gets no more methods");
        x.addClass(0, -1);
        x.addClass(0, 0);
        x.addClass(0, -1);
        int body = n(1);
        due(1, x.addMethod(1, 0, n(1)));
        x.make(1);
        thrown(STATE, () -> x.addMethod(1, 1, body));
        due(1, x.addMethod(2, 1, body));
        sentence(20, "an object that could not be made leaves its class open");
        x.addClass(0, -1);
        fillTerms();
        thrown(STATE, () -> x.make(0));
        due(1, x.addMethod(0, 0, 0));
        sentence(18, "a class that could not be a parent stays open");
        for (int i = 0; i < 8; i++) {
            x.addClass(0, -1);
        }
        thrown(STATE, () -> x.addClass(0, 3));
        thrown(ARGUMENT, () -> x.addClass(8, 3));
        due(1, x.addMethod(3, 0, n(1)));
    }

    public static void main(String[] arguments) {
        newObjects();
        terms();
        namesAndLabels();
        records();
        allLabels();
        cases();
        namesOfCases();
        classes();
        heirs();
        emptyClasses();
        completeClasses();
        finish("boundaries of terms");
    }
}
