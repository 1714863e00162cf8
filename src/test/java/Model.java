import java.util.ArrayList;
import java.util.HashMap;
import java.util.HashSet;
import java.util.List;
import java.util.Map;
import java.util.NoSuchElementException;
import java.util.Set;
import java.util.TreeMap;
import java.util.TreeSet;

/**
 * The document once more, written plainly and apart from Rowan: types are trees, substitutions are
 * maps, and typing, reading and running are recursive. RandomRuns compares both call by call.
 */
public final class Model {

    // ---- Terms and classes ----

    private static final class Term {
        String kind;
        int detail;
        int name;
        List<Integer> parts = new ArrayList<>();
        boolean isPart;
    }

    private static final class Clazz {
        int self;
        int parent;
        TreeMap<Integer, Integer> bodies = new TreeMap<>();
    }

    private final List<Term> terms = new ArrayList<>();
    private final List<Clazz> classes = new ArrayList<>();
    private final StringBuilder written = new StringBuilder();

    private static void check(boolean ok, RuntimeException otherwise) {
        if (!ok) {
            throw otherwise;
        }
    }

    private boolean isThere(int t, boolean cases) {
        return t >= 0 && t < terms.size() && isCases(t) == cases;
    }

    private boolean isCases(int t) {
        String kind = terms.get(t).kind;
        return kind.equals("none") || kind.equals("case") || kind.equals("other");
    }

    private static RuntimeException argument() {
        return new IllegalArgumentException();
    }

    private static RuntimeException index() {
        return new IndexOutOfBoundsException();
    }

    private static RuntimeException state() {
        return new IllegalStateException();
    }

    private static RuntimeException element() {
        return new NoSuchElementException();
    }

    private static void checkName(int name) {
        check(name >= 0 && name <= 7, argument());
    }

    private static void checkLabel(int label) {
        check(label >= 0 && label <= 9, argument());
    }

    private void checkTerm(int t) {
        check(isThere(t, false), index());
    }

    private int add(String kind, int detail, int name, int... parts) {
        Set<Integer> all = new HashSet<>();
        for (int part : parts) {
            check(!terms.get(part).isPart && all.add(part), new UnsupportedOperationException());
        }
        check(terms.size() < 80, state());
        Term term = new Term();
        term.kind = kind;
        term.detail = detail;
        term.name = name;
        for (int part : parts) {
            term.parts.add(part);
            terms.get(part).isPart = true;
        }
        terms.add(term);
        return terms.size() - 1;
    }

    private int addChecked(String kind, int detail, int name, int... parts) {
        for (int part : parts) {
            checkTerm(part);
        }
        return add(kind, detail, name, parts);
    }

    public int number(int value) {
        return addChecked("number", value, 0);
    }

    public int name(int name) {
        checkName(name);
        return addChecked("name", 0, name);
    }

    public int function(int name, int body) {
        checkName(name);
        return addChecked("function", 0, name, body);
    }

    public int apply(int function, int argument) {
        return addChecked("apply", 0, 0, function, argument);
    }

    public int let(int name, int bound, int body) {
        checkName(name);
        return addChecked("let", 0, name, bound, body);
    }

    public int sum(int first, int second) {
        return addChecked("sum", 0, 0, first, second);
    }

    public int choice(int first, int second, int third) {
        return addChecked("choice", 0, 0, first, second, third);
    }

    public int record() {
        return addChecked("record", 0, 0);
    }

    public int with(int label, int value, int record) {
        checkLabel(label);
        return addChecked("with", label, 0, value, record);
    }

    public int get(int record, int label) {
        checkLabel(label);
        return addChecked("get", label, 0, record);
    }

    public int without(int record, int label) {
        checkLabel(label);
        return addChecked("without", label, 0, record);
    }

    public int variant(int label, int value) {
        checkLabel(label);
        return addChecked("variant", label, 0, value);
    }

    public int match(int term, int cases) {
        check(isThere(term, false) && isThere(cases, true), index());
        return add("match", 0, 0, term, cases);
    }

    public int noCases() {
        return addChecked("none", 0, 0);
    }

    public int caseFor(int label, int name, int body, int cases) {
        checkLabel(label);
        checkName(name);
        check(isThere(body, false) && isThere(cases, true), index());
        return add("case", label, name, body, cases);
    }

    public int otherCases(int name, int body) {
        checkName(name);
        return addChecked("other", 0, name, body);
    }

    public int addClass(int name, int parent) {
        checkName(name);
        check(parent >= -1 && parent < classes.size(), element());
        check(classes.size() < 8, state());
        Clazz clazz = new Clazz();
        clazz.self = name;
        clazz.parent = parent;
        classes.add(clazz);
        return classes.size() - 1;
    }

    private void checkClass(int clazz) {
        check(clazz >= 0 && clazz < classes.size(), element());
    }

    private boolean makesFrom(int t, int clazz) {
        Term term = terms.get(t);
        boolean makes = term.kind.equals("make") && term.detail >= clazz;
        for (int part : term.parts) {
            makes |= makesFrom(part, clazz);
        }
        return makes;
    }

    public int addMethod(int clazz, int label, int body) {
        checkClass(clazz);
        checkLabel(label);
        checkTerm(body);
        check(!terms.get(body).isPart && !makesFrom(body, clazz), new UnsupportedOperationException());
        boolean isMade = false;
        for (Term term : terms) {
            isMade |= term.kind.equals("make") && term.detail == clazz;
        }
        for (Clazz other : classes) {
            isMade |= other.parent == clazz;
        }
        TreeMap<Integer, Integer> bodies = classes.get(clazz).bodies;
        check(!isMade && !bodies.containsKey(label), state());
        bodies.put(label, body);
        terms.get(body).isPart = true;
        return bodies.size();
    }

    public int make(int clazz) {
        checkClass(clazz);
        return addChecked("make", clazz, 0);
    }

    public int send(int object, int label) {
        checkLabel(label);
        return addChecked("send", label, 0, object);
    }

    public int narrow(int object, int labels) {
        check(labels >= 0 && labels <= 1023, argument());
        return addChecked("narrow", labels, 0, object);
    }

    public int terms() {
        return terms.size();
    }

    // ---- Types ----

    private abstract static class Type {
    }

    private static final class Int extends Type {
    }

    private static final class Variable extends Type {
        final int id;

        Variable(int id) {
            this.id = id;
        }
    }

    private static final class Fun extends Type {
        final Type left;
        final Type right;

        Fun(Type left, Type right) {
            this.left = left;
            this.right = right;
        }
    }

    private static final class Rowed extends Type {
        final char open;
        final Row row;

        Rowed(char open, Row row) {
            this.open = open;
            this.row = row;
        }
    }

    /** The labels, and the row variable at the end, or -1 for a closed row. */
    private static final class Row {
        final TreeMap<Integer, Type> labels;
        final int tail;

        Row(TreeMap<Integer, Type> labels, int tail) {
            this.labels = labels;
            this.tail = tail;
        }
    }

    private static final class Scheme {
        final Type type;
        final Set<Integer> all;

        Scheme(Type type, Set<Integer> all) {
            this.type = type;
            this.all = all;
        }
    }

    private static final class TypeError extends Exception {
        final char kind;
        int at;

        TypeError(char kind, int at) {
            this.kind = kind;
            this.at = at;
        }
    }

    private static final class NotTheSame extends Exception {
    }

    private int fresh = 0;
    private final Map<Integer, Type> forVariable = new HashMap<>();
    private final Map<Integer, Row> forRow = new HashMap<>();
    private final Map<Integer, TreeSet<Integer>> lacks = new HashMap<>();

    private Type newVariable() {
        return new Variable(fresh++);
    }

    private int newRow(TreeSet<Integer> lacking) {
        lacks.put(fresh, new TreeSet<>(lacking));
        return fresh++;
    }

    private static TreeMap<Integer, Type> one(int label, Type type) {
        TreeMap<Integer, Type> labels = new TreeMap<>();
        labels.put(label, type);
        return labels;
    }

    private Row openRow(TreeMap<Integer, Type> labels) {
        return new Row(labels, newRow(new TreeSet<>(labels.keySet())));
    }

    /** A type with all that was put for its variables. */
    private Type full(Type type) {
        if (type instanceof Variable) {
            Type put = forVariable.get(((Variable) type).id);
            return put == null ? type : full(put);
        }
        if (type instanceof Fun) {
            return new Fun(full(((Fun) type).left), full(((Fun) type).right));
        }
        if (type instanceof Rowed) {
            return new Rowed(((Rowed) type).open, fullRow(((Rowed) type).row));
        }
        return type;
    }

    private Row fullRow(Row row) {
        TreeMap<Integer, Type> labels = new TreeMap<>();
        Row flat = flat(row);
        for (Map.Entry<Integer, Type> entry : flat.labels.entrySet()) {
            labels.put(entry.getKey(), full(entry.getValue()));
        }
        return new Row(labels, flat.tail);
    }

    private Row flat(Row row) {
        Row at = row;
        TreeMap<Integer, Type> labels = new TreeMap<>(row.labels);
        while (at.tail >= 0 && forRow.containsKey(at.tail)) {
            at = forRow.get(at.tail);
            labels.putAll(at.labels);
        }
        return new Row(labels, at.tail);
    }

    private static void variablesOf(Type type, Set<Integer> into) {
        if (type instanceof Variable) {
            into.add(((Variable) type).id);
        } else if (type instanceof Fun) {
            variablesOf(((Fun) type).left, into);
            variablesOf(((Fun) type).right, into);
        } else if (type instanceof Rowed) {
            Row row = ((Rowed) type).row;
            for (Type part : row.labels.values()) {
                variablesOf(part, into);
            }
            if (row.tail >= 0) {
                into.add(row.tail);
            }
        }
    }

    private static void onLeftSides(Type type, boolean left, Set<Integer> into) {
        if (type instanceof Variable) {
            if (left) {
                into.add(((Variable) type).id);
            }
        } else if (type instanceof Fun) {
            onLeftSides(((Fun) type).left, !left, into);
            onLeftSides(((Fun) type).right, left, into);
        } else if (type instanceof Rowed) {
            Row row = ((Rowed) type).row;
            for (Type part : row.labels.values()) {
                onLeftSides(part, left, into);
            }
            if (left && row.tail >= 0) {
                into.add(row.tail);
            }
        }
    }

    private static int sizeOf(Type type) {
        if (type instanceof Fun) {
            return 1 + sizeOf(((Fun) type).left) + sizeOf(((Fun) type).right);
        }
        if (type instanceof Rowed) {
            Row row = ((Rowed) type).row;
            int size = row.tail >= 0 ? 2 : 1;
            for (Type part : row.labels.values()) {
                size += 1 + sizeOf(part);
            }
            return size;
        }
        return 1;
    }

    private void same(Type one, Type other) throws NotTheSame {
        Type a = full(one);
        Type b = full(other);
        if (a instanceof Variable || b instanceof Variable) {
            Variable variable = (Variable) (a instanceof Variable ? a : b);
            Type put = a instanceof Variable ? b : a;
            if (put instanceof Variable && ((Variable) put).id == variable.id) {
                return;
            }
            Set<Integer> inside = new HashSet<>();
            variablesOf(put, inside);
            if (inside.contains(variable.id)) {
                throw new NotTheSame();
            }
            forVariable.put(variable.id, put);
        } else if (a instanceof Fun && b instanceof Fun) {
            same(((Fun) a).left, ((Fun) b).left);
            same(((Fun) a).right, ((Fun) b).right);
        } else if (a instanceof Rowed && b instanceof Rowed && ((Rowed) a).open == ((Rowed) b).open) {
            sameRows(((Rowed) a).row, ((Rowed) b).row);
        } else if (!(a instanceof Int && b instanceof Int)) {
            throw new NotTheSame();
        }
    }

    private void sameRows(Row one, Row other) throws NotTheSame {
        Row a = fullRow(one);
        Row b = fullRow(other);
        TreeMap<Integer, Type> onlyA = new TreeMap<>(a.labels);
        onlyA.keySet().removeAll(b.labels.keySet());
        TreeMap<Integer, Type> onlyB = new TreeMap<>(b.labels);
        onlyB.keySet().removeAll(a.labels.keySet());
        if (a.tail == b.tail) {
            if (!onlyA.isEmpty() || !onlyB.isEmpty()) {
                throw new NotTheSame();
            }
        } else {
            int end = -1;
            if (a.tail >= 0 && b.tail >= 0) {
                TreeSet<Integer> both = new TreeSet<>(lacks.get(a.tail));
                both.addAll(lacks.get(b.tail));
                end = newRow(both);
            }
            put(a.tail, onlyB, end);
            put(b.tail, onlyA, end);
        }
        for (int label : a.labels.keySet()) {
            if (b.labels.containsKey(label)) {
                same(a.labels.get(label), b.labels.get(label));
            }
        }
    }

    private void put(int tail, TreeMap<Integer, Type> labels, int end) throws NotTheSame {
        if (tail < 0) {
            if (!labels.isEmpty()) {
                throw new NotTheSame();
            }
            return;
        }
        for (Map.Entry<Integer, Type> entry : labels.entrySet()) {
            Set<Integer> inside = new HashSet<>();
            variablesOf(full(entry.getValue()), inside);
            if (inside.contains(tail) || lacks.get(tail).contains(entry.getKey())) {
                throw new NotTheSame();
            }
        }
        forRow.put(tail, new Row(labels, end));
    }

    private Type renew(Type type, Set<Integer> all, Map<Integer, Integer> news) {
        if (type instanceof Variable) {
            int id = ((Variable) type).id;
            return all == null || all.contains(id) ? new Variable(news.computeIfAbsent(id, k -> fresh++)) : type;
        }
        if (type instanceof Fun) {
            return new Fun(renew(((Fun) type).left, all, news), renew(((Fun) type).right, all, news));
        }
        if (type instanceof Rowed) {
            Row row = ((Rowed) type).row;
            TreeMap<Integer, Type> labels = new TreeMap<>();
            for (Map.Entry<Integer, Type> entry : row.labels.entrySet()) {
                labels.put(entry.getKey(), renew(entry.getValue(), all, news));
            }
            int tail = row.tail;
            if (tail >= 0 && (all == null || all.contains(tail))) {
                TreeSet<Integer> lacking = lacks.get(tail);
                tail = news.computeIfAbsent(tail, k -> newRow(lacking));
            }
            return new Rowed(((Rowed) type).open, new Row(labels, tail));
        }
        return type;
    }

    // ---- Typing ----

    private boolean isValue(int t) {
        Term term = terms.get(t);
        switch (term.kind) {
            case "number":
            case "name":
            case "function":
            case "record":
                return true;
            case "with":
                return isValue(term.parts.get(0)) && isValue(term.parts.get(1));
            case "variant":
                return isValue(term.parts.get(0));
            default:
                return false;
        }
    }

    private Map<Integer, Scheme> bind(Map<Integer, Scheme> names, int name, Type type) {
        Map<Integer, Scheme> bound = new HashMap<>(names);
        bound.put(name, new Scheme(type, new HashSet<>()));
        return bound;
    }

    private Type typeOf(int t, Map<Integer, Scheme> names) throws TypeError {
        Type type;
        try {
            type = full(ruleOf(t, names));
        } catch (NotTheSame error) {
            throw new TypeError('t', t);
        }
        if (sizeOf(type) > 100) {
            throw new TypeError('s', t);
        }
        return type;
    }

    private Type ruleOf(int t, Map<Integer, Scheme> names) throws TypeError, NotTheSame {
        Term term = terms.get(t);
        List<Integer> parts = term.parts;
        int label = term.detail;
        switch (term.kind) {
            case "number":
                return new Int();
            case "name":
                Scheme scheme = names.get(term.name);
                if (scheme == null) {
                    throw new TypeError('u', t);
                }
                return renew(full(scheme.type), scheme.all, new HashMap<>());
            case "function": {
                Type left = newVariable();
                Type right = typeOf(parts.get(0), bind(names, term.name, left));
                return new Fun(left, right);
            }
            case "apply": {
                Type function = typeOf(parts.get(0), names);
                Type argument = typeOf(parts.get(1), names);
                Type answer = newVariable();
                same(function, new Fun(argument, answer));
                return answer;
            }
            case "let":
                return typeOfLet(term, names);
            case "sum": {
                Type first = typeOf(parts.get(0), names);
                Type second = typeOf(parts.get(1), names);
                same(first, new Int());
                same(second, new Int());
                return new Int();
            }
            case "choice": {
                Type first = typeOf(parts.get(0), names);
                Type second = typeOf(parts.get(1), names);
                Type third = typeOf(parts.get(2), names);
                same(first, new Int());
                same(second, third);
                return second;
            }
            case "record":
                return new Rowed('{', new Row(new TreeMap<>(), -1));
            case "with": {
                Type value = typeOf(parts.get(0), names);
                Type record = typeOf(parts.get(1), names);
                Row row = openRow(one(label, value));
                same(record, new Rowed('{', new Row(new TreeMap<>(), row.tail)));
                return new Rowed('{', row);
            }
            case "get":
            case "without":
            case "send": {
                char open = term.kind.equals("send") ? '<' : '{';
                Type first = typeOf(parts.get(0), names);
                Type field = newVariable();
                Row row = openRow(one(label, field));
                same(first, new Rowed(open, row));
                return term.kind.equals("without") ? new Rowed('{', new Row(new TreeMap<>(), row.tail)) : field;
            }
            case "variant":
                return new Rowed('[', openRow(one(label, typeOf(parts.get(0), names))));
            case "match":
                return typeOfMatch(term, names);
            case "make":
                return typeOfObject(t, label);
            case "narrow": {
                Type object = typeOf(parts.get(0), names);
                TreeMap<Integer, Type> labels = new TreeMap<>();
                for (int i = 0; i < 10; i++) {
                    if ((term.detail >> i) % 2 == 1) {
                        labels.put(i, newVariable());
                    }
                }
                same(object, new Rowed('<', openRow(labels)));
                return new Rowed('<', new Row(labels, -1));
            }
            default:
                throw new AssertionError(term.kind);
        }
    }

    private Type typeOfLet(Term term, Map<Integer, Scheme> names) throws TypeError {
        Type first = typeOf(term.parts.get(0), names);
        Set<Integer> all = new HashSet<>();
        variablesOf(first, all);
        if (!isValue(term.parts.get(0))) {
            Set<Integer> left = new HashSet<>();
            onLeftSides(first, false, left);
            all.removeAll(left);
        }
        for (Scheme scheme : names.values()) {
            Set<Integer> inside = new HashSet<>();
            variablesOf(full(scheme.type), inside);
            inside.removeAll(scheme.all);
            all.removeAll(inside);
        }
        Map<Integer, Scheme> bound = new HashMap<>(names);
        bound.put(term.name, new Scheme(first, all));
        return typeOf(term.parts.get(1), bound);
    }

    private Type typeOfMatch(Term match, Map<Integer, Scheme> names) throws TypeError, NotTheSame {
        Type first = typeOf(match.parts.get(0), names);
        List<Integer> labels = new ArrayList<>();
        List<Type> bound = new ArrayList<>();
        List<Type> bodies = new ArrayList<>();
        Term at = terms.get(match.parts.get(1));
        while (at.kind.equals("case")) {
            Type type = newVariable();
            labels.add(at.detail);
            bound.add(type);
            bodies.add(typeOf(at.parts.get(0), bind(names, at.name, type)));
            at = terms.get(at.parts.get(1));
        }
        int tail = -1;
        if (at.kind.equals("other")) {
            tail = newRow(new TreeSet<>(labels));
            Type variant = new Rowed('[', new Row(new TreeMap<>(), tail));
            bodies.add(typeOf(at.parts.get(0), bind(names, at.name, variant)));
        }
        TreeMap<Integer, Type> row = new TreeMap<>();
        for (int i = 0; i < labels.size(); i++) {
            Type before = row.putIfAbsent(labels.get(i), bound.get(i));
            if (before != null) {
                same(before, bound.get(i));
            }
        }
        same(first, new Rowed('[', new Row(row, tail)));
        for (int i = 1; i < bodies.size(); i++) {
            same(bodies.get(0), bodies.get(i));
        }
        return bodies.isEmpty() ? newVariable() : bodies.get(0);
    }

    private Row rowOfClass(int clazz) throws TypeError {
        Clazz c = classes.get(clazz);
        Row row = c.parent < 0 ? openRow(new TreeMap<>())
                : ((Rowed) renew(new Rowed('<', rowOfClass(c.parent)), null, new HashMap<>())).row;
        Type self = new Rowed('<', row);
        for (Map.Entry<Integer, Integer> method : c.bodies.entrySet()) {
            Type body = typeOf(method.getValue(), bind(new HashMap<>(), c.self, self));
            try {
                same(self, new Rowed('<', openRow(one(method.getKey(), body))));
            } catch (NotTheSame error) {
                throw new TypeError('t', -1);
            }
        }
        return fullRow(row);
    }

    private Type typeOfObject(int t, int clazz) throws TypeError, NotTheSame {
        Row row;
        try {
            row = rowOfClass(clazz);
        } catch (TypeError error) {
            throw new TypeError(error.kind, t);
        }
        Type object = renew(new Rowed('<', row), null, new HashMap<>());
        TreeMap<Integer, Type> labels = new TreeMap<>();
        for (int label = 0; label < 10; label++) {
            if (ownerOf(clazz, label) >= 0) {
                labels.put(label, newVariable());
            }
        }
        same(object, new Rowed('<', new Row(labels, -1)));
        return object;
    }

    private Type typed(int t) throws TypeError {
        forVariable.clear();
        forRow.clear();
        lacks.clear();
        fresh = 0;
        return typeOf(t, new HashMap<>());
    }

    public char error(int t) {
        checkTerm(t);
        try {
            typed(t);
            return '-';
        } catch (TypeError error) {
            return error.kind;
        }
    }

    public int errorAt(int t) {
        checkTerm(t);
        try {
            typed(t);
        } catch (TypeError error) {
            return error.at;
        }
        throw element();
    }

    // ---- Text ----

    private void show(Type type, List<Integer> seen, StringBuilder into) {
        if (type instanceof Int) {
            into.append("int");
        } else if (type instanceof Variable) {
            showVariable(((Variable) type).id, seen, into);
        } else if (type instanceof Fun) {
            boolean bracket = ((Fun) type).left instanceof Fun;
            into.append(bracket ? "(" : "");
            show(((Fun) type).left, seen, into);
            into.append(bracket ? ") -> " : " -> ");
            show(((Fun) type).right, seen, into);
        } else {
            Rowed rowed = (Rowed) type;
            into.append(rowed.open);
            String comma = "";
            for (Map.Entry<Integer, Type> entry : rowed.row.labels.entrySet()) {
                into.append(comma).append(entry.getKey()).append(":");
                show(entry.getValue(), seen, into);
                comma = ",";
            }
            if (rowed.row.tail >= 0) {
                into.append("|");
                showVariable(rowed.row.tail, seen, into);
                into.append("-");
                for (int label : lacks.get(rowed.row.tail)) {
                    into.append(label);
                }
            }
            into.append(rowed.open == '{' ? "}" : rowed.open == '[' ? "]" : ">");
        }
    }

    private static void showVariable(int id, List<Integer> seen, StringBuilder into) {
        if (!seen.contains(id)) {
            seen.add(id);
        }
        into.append("'").append(seen.indexOf(id));
    }

    String textOf(int t) {
        checkTerm(t);
        try {
            Type type = typed(t);
            StringBuilder into = new StringBuilder();
            show(type, new ArrayList<>(), into);
            return into.toString();
        } catch (TypeError error) {
            throw state();
        }
    }

    public int typeLength(int t) {
        return textOf(t).length();
    }

    public char typeAt(int t, int index) {
        String text = textOf(t);
        check(index >= 0 && index < text.length(), element());
        return text.charAt(index);
    }

    public int variables(int t) {
        textOf(t);
        try {
            Set<Integer> all = new HashSet<>();
            variablesOf(typed(t), all);
            return all.size();
        } catch (TypeError error) {
            throw state();
        }
    }

    // ---- Generality ----

    public boolean isGeneral(int t, int other) {
        checkTerm(t);
        checkTerm(other);
        textOf(t);
        textOf(other);
        try {
            Type general = typed(t);
            Map<Integer, TreeSet<Integer>> lacksOfGeneral = new HashMap<>(lacks);
            Type special = typed(other);
            return fits(general, special, new HashMap<>(), lacksOfGeneral);
        } catch (TypeError error) {
            throw state();
        }
    }

    /** Puts are texts of types, or of rows, with the numbers of the variables of the special type. */
    private boolean fits(Type general, Type special, Map<Integer, String> puts,
            Map<Integer, TreeSet<Integer>> lacksOfGeneral) {
        if (general instanceof Variable) {
            String text = raw(special);
            String before = puts.putIfAbsent(((Variable) general).id, text);
            return before == null || before.equals(text);
        }
        if (general instanceof Int) {
            return special instanceof Int;
        }
        if (general instanceof Fun) {
            return special instanceof Fun && fits(((Fun) general).left, ((Fun) special).left, puts, lacksOfGeneral)
                    && fits(((Fun) general).right, ((Fun) special).right, puts, lacksOfGeneral);
        }
        Rowed a = (Rowed) general;
        if (!(special instanceof Rowed) || ((Rowed) special).open != a.open) {
            return false;
        }
        Row b = ((Rowed) special).row;
        TreeMap<Integer, Type> rest = new TreeMap<>(b.labels);
        for (Map.Entry<Integer, Type> entry : a.row.labels.entrySet()) {
            Type type = rest.remove(entry.getKey());
            if (type == null || !fits(entry.getValue(), type, puts, lacksOfGeneral)) {
                return false;
            }
        }
        if (a.row.tail < 0) {
            return rest.isEmpty() && b.tail < 0;
        }
        for (int label : lacksOfGeneral.get(a.row.tail)) {
            if (rest.containsKey(label) || b.tail >= 0 && !lacks.get(b.tail).contains(label)) {
                return false;
            }
        }
        String text = raw(new Rowed('/', new Row(rest, b.tail)));
        String before = puts.putIfAbsent(a.row.tail, text);
        return before == null || before.equals(text);
    }

    private static String raw(Type type) {
        if (type instanceof Int) {
            return "int";
        }
        if (type instanceof Variable) {
            return "'" + ((Variable) type).id;
        }
        if (type instanceof Fun) {
            return "(" + raw(((Fun) type).left) + ">" + raw(((Fun) type).right) + ")";
        }
        StringBuilder text = new StringBuilder().append(((Rowed) type).open);
        Row row = ((Rowed) type).row;
        for (Map.Entry<Integer, Type> entry : row.labels.entrySet()) {
            text.append(entry.getKey()).append(raw(entry.getValue())).append(";");
        }
        return text.append("|").append(row.tail).append("/").toString();
    }

    // ---- Reading ----

    public int write(char character) {
        check("0123456789abcdefghijklmnopqrstuvwxyz :,|'-><(){}[]".indexOf(character) >= 0, argument());
        check(written.length() < 200, state());
        written.append(character);
        return written.length();
    }

    public int erase() {
        int count = written.length();
        written.setLength(0);
        return count;
    }

    private static final class NoType extends Exception {
    }

    private String text;
    private int at;
    private final Map<Integer, Type> readVariables = new HashMap<>();
    private final Map<Integer, Integer> readRows = new HashMap<>();

    private boolean sees(String wanted) {
        return text.startsWith(wanted, at);
    }

    private void need(String wanted) throws NoType {
        if (!sees(wanted)) {
            throw new NoType();
        }
        at += wanted.length();
    }

    private Type read(String newText) throws NoType {
        text = newText;
        at = 0;
        readVariables.clear();
        readRows.clear();
        Type type = readType();
        if (at != text.length()) {
            throw new NoType();
        }
        return type;
    }

    private Type readType() throws NoType {
        boolean bracket = sees("(");
        Type left;
        if (bracket) {
            at++;
            left = readType();
            need(")");
            if (!(left instanceof Fun) || !sees(" -> ")) {
                throw new NoType();
            }
        } else {
            left = readSimple();
        }
        if (sees(" -> ")) {
            at += 4;
            return new Fun(left, readType());
        }
        return left;
    }

    private Type readSimple() throws NoType {
        if (sees("int")) {
            at += 3;
            return new Int();
        }
        if (sees("'")) {
            int number = readNumber();
            if (readRows.containsKey(number)) {
                throw new NoType();
            }
            return readVariables.computeIfAbsent(number, k -> newVariable());
        }
        for (String pair : new String[] {"{}", "[]", "<>"}) {
            if (sees(pair.substring(0, 1))) {
                at++;
                Row row = readRow();
                need(pair.substring(1));
                return new Rowed(pair.charAt(0), row);
            }
        }
        throw new NoType();
    }

    private int readNumber() throws NoType {
        need("'");
        int from = at;
        while (at < text.length() && Character.isDigit(text.charAt(at))) {
            at++;
        }
        String digits = text.substring(from, at);
        if (digits.isEmpty() || digits.length() > 2 || digits.length() == 2 && digits.startsWith("0")) {
            throw new NoType();
        }
        return Integer.parseInt(digits);
    }

    private Row readRow() throws NoType {
        TreeMap<Integer, Type> labels = new TreeMap<>();
        boolean more = at < text.length() && Character.isDigit(text.charAt(at));
        while (more) {
            if (at >= text.length() || !Character.isDigit(text.charAt(at))) {
                throw new NoType();
            }
            int label = text.charAt(at) - '0';
            at++;
            need(":");
            if (!labels.isEmpty() && labels.lastKey() >= label) {
                throw new NoType();
            }
            labels.put(label, readType());
            more = sees(",");
            if (more) {
                at++;
            }
        }
        if (!sees("|")) {
            return new Row(labels, -1);
        }
        at++;
        int number = readNumber();
        need("-");
        TreeSet<Integer> lacking = new TreeSet<>(labels.keySet());
        int last = -1;
        while (at < text.length() && Character.isDigit(text.charAt(at))) {
            int label = text.charAt(at) - '0';
            if (label <= last) {
                throw new NoType();
            }
            last = label;
            lacking.add(label);
            at++;
        }
        if (readVariables.containsKey(number)) {
            throw new NoType();
        }
        int id = readRows.computeIfAbsent(number, k -> newRow(new TreeSet<>()));
        lacks.get(id).addAll(lacking);
        return new Row(labels, id);
    }

    public boolean isType() {
        try {
            read(written.toString());
            return true;
        } catch (NoType error) {
            return false;
        }
    }

    public boolean accepts(int t) {
        textOf(t);
        check(isType(), new UnsupportedOperationException());
        return isAccepted(t, written.toString());
    }

    private boolean isAccepted(int t, String shown) {
        try {
            Type type = typed(t);
            same(type, read(shown));
            return true;
        } catch (NotTheSame | NoType | TypeError error) {
            return false;
        }
    }

    // ---- Running ----

    private static final class Value {
        char way;
        int detail;
        Value inner;
        Map<Integer, Value> names;
        TreeMap<Integer, Value> fields = new TreeMap<>();

        Value(char way, int detail) {
            this.way = way;
            this.detail = detail;
        }
    }

    private static final class Failure extends Exception {
        final char way;

        Failure(char way) {
            this.way = way;
        }
    }

    private int steps;
    private boolean search;
    private char way = '-';
    private Value last;
    private final Map<Integer, Integer> caches = new HashMap<>();
    private final Map<Integer, Integer> hitsOf = new HashMap<>();
    private final Map<Integer, Integer> missesOf = new HashMap<>();

    private Map<Integer, Value> scope(Map<Integer, Value> names, int name, Value value) {
        Map<Integer, Value> bound = new HashMap<>(names);
        bound.put(name, value);
        return bound;
    }

    private Value eval(int t, Map<Integer, Value> names, int depth) throws Failure {
        if (steps == 2000) {
            throw new Failure('l');
        }
        if (depth > 100) {
            throw new Failure('d');
        }
        steps++;
        Term term = terms.get(t);
        List<Integer> parts = term.parts;
        switch (term.kind) {
            case "number":
                return new Value('n', term.detail);
            case "name":
                return names.get(term.name);
            case "function": {
                Value value = new Value('f', t);
                value.names = names;
                return value;
            }
            case "apply": {
                Value function = eval(parts.get(0), names, depth + 1);
                Value argument = eval(parts.get(1), names, depth + 1);
                Term body = terms.get(function.detail);
                return eval(body.parts.get(0), scope(function.names, body.name, argument), depth + 1);
            }
            case "let": {
                Value bound = eval(parts.get(0), names, depth + 1);
                return eval(parts.get(1), scope(names, term.name, bound), depth + 1);
            }
            case "sum": {
                Value first = eval(parts.get(0), names, depth + 1);
                return new Value('n', first.detail + eval(parts.get(1), names, depth + 1).detail);
            }
            case "choice": {
                Value first = eval(parts.get(0), names, depth + 1);
                return eval(parts.get(first.detail != 0 ? 1 : 2), names, depth + 1);
            }
            case "record":
                return new Value('r', 0);
            case "with": {
                Value field = eval(parts.get(0), names, depth + 1);
                Value record = eval(parts.get(1), names, depth + 1);
                Value value = new Value('r', 0);
                value.fields.putAll(record.fields);
                check(value.fields.put(term.detail, field) == null, new AssertionError2());
                return value;
            }
            case "get":
                return there(eval(parts.get(0), names, depth + 1).fields.get(term.detail));
            case "without": {
                Value value = new Value('r', 0);
                value.fields.putAll(eval(parts.get(0), names, depth + 1).fields);
                there(value.fields.remove(term.detail));
                return value;
            }
            case "variant": {
                Value value = new Value('v', term.detail);
                value.inner = eval(parts.get(0), names, depth + 1);
                return value;
            }
            case "match": {
                Value variant = eval(parts.get(0), names, depth + 1);
                Term at = terms.get(parts.get(1));
                while (at.kind.equals("case") && at.detail != variant.detail) {
                    at = terms.get(at.parts.get(1));
                }
                Value bound = at.kind.equals("case") ? variant.inner : variant;
                return eval(at.parts.get(0), scope(names, at.name, bound), depth + 1);
            }
            case "make":
                return new Value('o', term.detail);
            case "narrow":
                return eval(parts.get(0), names, depth + 1);
            case "send": {
                Value object = eval(parts.get(0), names, depth + 1);
                if (!search) {
                    boolean hit = caches.containsKey(t) && caches.get(t) == object.detail;
                    (hit ? hitsOf : missesOf).merge(t, 1, Integer::sum);
                    caches.put(t, object.detail);
                }
                Clazz owner = classes.get(ownerOf(object.detail, term.detail));
                return eval(owner.bodies.get(term.detail), scope(new HashMap<>(), owner.self, object), depth + 1);
            }
            default:
                throw new AssertionError(term.kind);
        }
    }

    /** What no program with a type does. */
    private static final class AssertionError2 extends RuntimeException {
    }

    private static Value there(Value value) {
        check(value != null, new AssertionError2());
        return value;
    }

    private int start(int t, boolean bySearch) {
        textOf(t);
        steps = 0;
        search = bySearch;
        try {
            last = eval(t, new HashMap<>(), 1);
            way = last.way;
        } catch (Failure failure) {
            way = failure.way;
        }
        return steps;
    }

    public int run(int t) {
        return start(t, false);
    }

    public int runBySearch(int t) {
        return start(t, true);
    }

    public char outcome() {
        return way;
    }

    public int result() {
        check(way == 'n', element());
        return last.detail;
    }

    public int resultLabel() {
        check(way == 'v', element());
        return last.detail;
    }

    public int resultField(int label) {
        checkLabel(label);
        check(way == 'r' && last.fields.containsKey(label) && last.fields.get(label).way == 'n', element());
        return last.fields.get(label).detail;
    }

    public int resultClass() {
        check(way == 'o', element());
        return last.detail;
    }

    private int ownerOf(int clazz, int label) {
        int at = clazz;
        while (at >= 0 && !classes.get(at).bodies.containsKey(label)) {
            at = classes.get(at).parent;
        }
        return at;
    }

    public int methods(int clazz) {
        checkClass(clazz);
        int count = 0;
        for (int label = 0; label < 10; label++) {
            count += ownerOf(clazz, label) >= 0 ? 1 : 0;
        }
        return count;
    }

    public int methodOf(int clazz, int label) {
        checkClass(clazz);
        checkLabel(label);
        check(ownerOf(clazz, label) >= 0, element());
        return ownerOf(clazz, label);
    }

    public int hits(int t) {
        checkTerm(t);
        check(terms.get(t).kind.equals("send"), element());
        return hitsOf.getOrDefault(t, 0);
    }

    public int misses(int t) {
        checkTerm(t);
        check(terms.get(t).kind.equals("send"), element());
        return missesOf.getOrDefault(t, 0);
    }

    public float hitShare() {
        int hit = hitsOf.values().stream().mapToInt(i -> i).sum();
        int all = hit + missesOf.values().stream().mapToInt(i -> i).sum();
        check(all != 0, new ArithmeticException());
        return (float) hit / (float) all;
    }

    public int hitShareBits() {
        return Float.floatToIntBits(hitShare());
    }

    public double meanLength() {
        int sum = 0;
        int count = 0;
        for (int t = 0; t < terms.size(); t++) {
            if (!terms.get(t).isPart && !isCases(t) && error(t) == '-') {
                sum += typeLength(t);
                count++;
            }
        }
        check(count != 0, new ArithmeticException());
        return (double) sum / count;
    }

    /** That this always holds is what the document claims. */
    public boolean isSound() {
        for (int t = 0; t < terms.size(); t++) {
            if (!terms.get(t).isPart && !isCases(t) && error(t) == '-'
                    && !(isAccepted(t, textOf(t)) && isGeneral(t, t))) {
                return false;
            }
        }
        return true;
    }
}
