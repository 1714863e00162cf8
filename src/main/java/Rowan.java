import java.util.Arrays;
import java.util.NoSuchElementException;

/**
 * A language of rows: functions, records that grow and lose labels, variants that are matched,
 * objects of classes with late binding and inheritance, and let with types for all.
 */
public final class Rowan {

    private static final int TERM_LIMIT = 80;
    private static final int MOST_PARTS = 3;
    private static final int CLASS_LIMIT = 8;
    private static final int NAMES = 8;
    private static final int LABELS = 10;
    private static final int LABEL_SETS = 1024;
    private static final int WRITTEN_LIMIT = 200;
    private static final int SIZE_LIMIT = 100;
    private static final int STEP_LIMIT = 2000;
    private static final int DEPTH_LIMIT = 100;
    private static final int VARIABLE_NUMBERS = 100;

    /** A type of 100 parts is shown with less than 9 characters for each. */
    private static final int TEXT_ROOM = 1000;
    private static final int NODE_LIMIT = 32000;
    private static final int WORK_LIMIT = 4 * NODE_LIMIT;

    private static final int NONE = -1;
    private static final int IN_METHOD = -2;

    // Terms; the kinds from NO_CASES on are cases.
    private static final int NUMBER = 0;
    private static final int NAME = 1;
    private static final int FUNCTION = 2;
    private static final int APPLY = 3;
    private static final int LET = 4;
    private static final int SUM = 5;
    private static final int CHOICE = 6;
    private static final int RECORD = 7;
    private static final int WITH = 8;
    private static final int GET = 9;
    private static final int WITHOUT = 10;
    private static final int VARIANT = 11;
    private static final int SEND = 12;
    private static final int NARROW = 13;
    private static final int MAKE = 14;
    private static final int MATCH = 15;
    private static final int NO_CASES = 16;
    private static final int CASE = 17;
    private static final int OTHER_CASES = 18;

    // Nodes of types and rows; fixed variables are those that nothing can be put for.
    private static final int INT_TYPE = 0;
    private static final int CLOSED_ROW = 1;
    private static final int FUNCTION_TYPE = 2;
    private static final int RECORD_TYPE = 3;
    private static final int VARIANT_TYPE = 4;
    private static final int OBJECT_TYPE = 5;
    private static final int LABEL_ROW = 6;
    private static final int VARIABLE = 7;
    private static final int ROW_VARIABLE = 8;
    private static final int FIXED_VARIABLE = 9;
    private static final int FIXED_ROW = 10;

    private static final int INT_NODE = 0;
    private static final int CLOSED_NODE = 1;

    // Values of runs.
    private static final int NUMBER_VALUE = 0;
    private static final int FUNCTION_VALUE = 1;
    private static final int RECORD_VALUE = 2;
    private static final int VARIANT_VALUE = 3;
    private static final int OBJECT_VALUE = 4;

    private static final String WRITABLE = "0123456789abcdefghijklmnopqrstuvwxyz :,|'-><(){}[]";
    /** By the kinds of types that have rows, from RECORD_TYPE on. */
    private static final String OPENINGS = "{[<";
    private static final String CLOSINGS = "}]>";

    private static final char UNTYPED = 0;
    private static final char FINE = '-';
    private static final char NO_TYPE_OF_NAME = 'u';
    private static final char NOT_THE_SAME = 't';
    private static final char TOO_LARGE = 's';
    private static final char TOO_MANY_STEPS = 'l';
    private static final char TOO_DEEP = 'd';

    private final Program program;
    private final Types types;
    private final Typing typing;
    private final TypeReader reader;
    private final Caches caches;
    private final Machine machine;
    private final Ending last;
    private final Ending withCaches;
    private final Ending withoutCaches;
    private final char[] written;
    private int writtenCount;

    public Rowan() {
        Program newProgram = new Program();
        Types newTypes = new Types();
        Caches newCaches = new Caches();
        program = newProgram;
        types = newTypes;
        caches = newCaches;
        typing = new Typing(newProgram, newTypes);
        reader = new TypeReader(newTypes);
        machine = new Machine(newProgram, newCaches);
        last = new Ending();
        withCaches = new Ending();
        withoutCaches = new Ending();
        written = new char[WRITTEN_LIMIT];
        writtenCount = 0;
    }

    // ---- Terms ----

    public int number(int value) throws IllegalStateException {
        needRoom();
        return program.addTerm(NUMBER, value, NONE, NONE, NONE, NONE);
    }

    public int name(int name) throws IllegalArgumentException, IllegalStateException {
        needName(name);
        needRoom();
        return program.addTerm(NAME, 0, name, NONE, NONE, NONE);
    }

    public int function(int name, int body)
            throws IllegalArgumentException, IndexOutOfBoundsException, UnsupportedOperationException,
            IllegalStateException {
        needName(name);
        needTerm(body);
        needFree(body);
        needRoom();
        return program.addTerm(FUNCTION, 0, name, body, NONE, NONE);
    }

    public int apply(int function, int argument)
            throws IndexOutOfBoundsException, UnsupportedOperationException, IllegalStateException {
        needTerm(function);
        needTerm(argument);
        needFreeAndOther(function, argument);
        needRoom();
        return program.addTerm(APPLY, 0, NONE, function, argument, NONE);
    }

    public int let(int name, int bound, int body)
            throws IllegalArgumentException, IndexOutOfBoundsException, UnsupportedOperationException,
            IllegalStateException {
        needName(name);
        needTerm(bound);
        needTerm(body);
        needFreeAndOther(bound, body);
        needRoom();
        return program.addTerm(LET, 0, name, bound, body, NONE);
    }

    public int sum(int first, int second)
            throws IndexOutOfBoundsException, UnsupportedOperationException, IllegalStateException {
        needTerm(first);
        needTerm(second);
        needFreeAndOther(first, second);
        needRoom();
        return program.addTerm(SUM, 0, NONE, first, second, NONE);
    }

    public int choice(int first, int second, int third)
            throws IndexOutOfBoundsException, UnsupportedOperationException, IllegalStateException {
        needTerm(first);
        needTerm(second);
        needTerm(third);
        needFreeAndOther(first, second);
        needFreeAndOther(second, third);
        needFreeAndOther(third, first);
        needRoom();
        return program.addTerm(CHOICE, 0, NONE, first, second, third);
    }

    public int record() throws IllegalStateException {
        needRoom();
        return program.addTerm(RECORD, 0, NONE, NONE, NONE, NONE);
    }

    public int with(int label, int value, int record)
            throws IllegalArgumentException, IndexOutOfBoundsException, UnsupportedOperationException,
            IllegalStateException {
        needLabel(label);
        needTerm(value);
        needTerm(record);
        needFreeAndOther(value, record);
        needRoom();
        return program.addTerm(WITH, label, NONE, value, record, NONE);
    }

    public int get(int record, int label)
            throws IllegalArgumentException, IndexOutOfBoundsException, UnsupportedOperationException,
            IllegalStateException {
        return addLabelled(GET, record, label);
    }

    public int without(int record, int label)
            throws IllegalArgumentException, IndexOutOfBoundsException, UnsupportedOperationException,
            IllegalStateException {
        return addLabelled(WITHOUT, record, label);
    }

    public int variant(int label, int value)
            throws IllegalArgumentException, IndexOutOfBoundsException, UnsupportedOperationException,
            IllegalStateException {
        return addLabelled(VARIANT, value, label);
    }

    public int match(int term, int cases)
            throws IndexOutOfBoundsException, UnsupportedOperationException, IllegalStateException {
        needTerm(term);
        needCases(cases);
        needFreeAndOther(term, cases);
        needRoom();
        return program.addTerm(MATCH, 0, NONE, term, cases, NONE);
    }

    public int noCases() throws IllegalStateException {
        needRoom();
        return program.addTerm(NO_CASES, 0, NONE, NONE, NONE, NONE);
    }

    public int caseFor(int label, int name, int body, int cases)
            throws IllegalArgumentException, IndexOutOfBoundsException, UnsupportedOperationException,
            IllegalStateException {
        needLabel(label);
        needName(name);
        needTerm(body);
        needCases(cases);
        needFreeAndOther(body, cases);
        needRoom();
        return program.addTerm(CASE, label, name, body, cases, NONE);
    }

    public int otherCases(int name, int body)
            throws IllegalArgumentException, IndexOutOfBoundsException, UnsupportedOperationException,
            IllegalStateException {
        needName(name);
        needTerm(body);
        needFree(body);
        needRoom();
        return program.addTerm(OTHER_CASES, 0, name, body, NONE, NONE);
    }

    // ---- Classes ----

    public int addClass(int name, int parent)
            throws IllegalArgumentException, NoSuchElementException, IllegalStateException {
        needName(name);
        if (parent != NONE) {
            needClass(parent);
        }
        if (program.classCount >= CLASS_LIMIT) {
            throw new IllegalStateException("there are 8 classes");
        }
        if (parent != NONE) {
            typing.typeClass(parent);
        }
        return program.putClass(name, parent);
    }

    public int addMethod(int clazz, int label, int body)
            throws NoSuchElementException, IllegalArgumentException, IndexOutOfBoundsException,
            UnsupportedOperationException, IllegalStateException {
        needClass(clazz);
        needLabel(label);
        needTerm(body);
        needFree(body);
        if (program.makesFrom(body, clazz)) {
            throw new UnsupportedOperationException("the body makes an object of a class without a lower number");
        }
        if (program.bodyOf(clazz, label) != NONE) {
            throw new IllegalStateException("the class has a method for this label");
        }
        if (program.isComplete[clazz]) {
            throw new IllegalStateException("the class is a parent, or an object of it is made");
        }
        return program.putMethod(clazz, label, body);
    }

    public int make(int clazz) throws NoSuchElementException, IllegalStateException {
        needClass(clazz);
        needRoom();
        typing.typeClass(clazz);
        return program.addTerm(MAKE, clazz, NONE, NONE, NONE, NONE);
    }

    public int send(int object, int label)
            throws IllegalArgumentException, IndexOutOfBoundsException, UnsupportedOperationException,
            IllegalStateException {
        return addLabelled(SEND, object, label);
    }

    public int narrow(int object, int labels)
            throws IllegalArgumentException, IndexOutOfBoundsException, UnsupportedOperationException,
            IllegalStateException {
        if (labels < 0 || labels >= LABEL_SETS) {
            throw new IllegalArgumentException("no such labels");
        }
        needTerm(object);
        needFree(object);
        needRoom();
        return program.addTerm(NARROW, labels, NONE, object, NONE, NONE);
    }

    public int terms() {
        return program.count;
    }

    // ---- Types ----

    public char error(int term) throws IndexOutOfBoundsException {
        needTerm(term);
        return typing.errorOf(term);
    }

    public int errorAt(int term) throws IndexOutOfBoundsException, NoSuchElementException {
        needTerm(term);
        if (typing.errorOf(term) == FINE) {
            throw new NoSuchElementException("the term has a type");
        }
        return typing.shown.errorTerm[term];
    }

    public int typeLength(int term) throws IndexOutOfBoundsException, IllegalStateException {
        needTerm(term);
        needFine(typing.errorOf(term));
        return typing.shown.length[term];
    }

    public char typeAt(int term, int index)
            throws IndexOutOfBoundsException, IllegalStateException, NoSuchElementException {
        needTerm(term);
        needFine(typing.errorOf(term));
        if (index < 0 || index >= typing.shown.length[term]) {
            throw new NoSuchElementException("no such character");
        }
        return typing.shown.text[term * TEXT_ROOM + index];
    }

    public int variables(int term) throws IndexOutOfBoundsException, IllegalStateException {
        needTerm(term);
        needFine(typing.errorOf(term));
        return typing.shown.variableCount[term];
    }

    public boolean isGeneral(int term, int other) throws IndexOutOfBoundsException, IllegalStateException {
        needTerm(term);
        needTerm(other);
        needFine(typing.errorOf(term));
        needFine(typing.errorOf(other));
        return isAsGeneral(term, other);
    }

    public int write(char character) throws IllegalArgumentException, IllegalStateException {
        if (WRITABLE.indexOf(character) < 0) {
            throw new IllegalArgumentException("no such character in types");
        }
        if (writtenCount >= WRITTEN_LIMIT) {
            throw new IllegalStateException("200 characters were written");
        }
        written[writtenCount] = character;
        writtenCount++;
        return writtenCount;
    }

    public int erase() {
        int taken = writtenCount;
        writtenCount = 0;
        return taken;
    }

    public boolean isType() {
        types.forget();
        return reader.readType(written, 0, writtenCount, false) != NONE;
    }

    public boolean accepts(int term)
            throws IndexOutOfBoundsException, IllegalStateException, UnsupportedOperationException {
        needTerm(term);
        needFine(typing.errorOf(term));
        types.forget();
        int type = reader.readType(written, 0, writtenCount, false);
        if (type == NONE) {
            throw new UnsupportedOperationException("the text is no type");
        }
        return isAccepted(type, term);
    }

    // ---- Methods and runs ----

    public int methods(int clazz) throws NoSuchElementException {
        needClass(clazz);
        return Integer.bitCount(program.labelsOf(clazz));
    }

    public int methodOf(int clazz, int label) throws NoSuchElementException, IllegalArgumentException {
        needClass(clazz);
        needLabel(label);
        int owner = program.ownerOf(clazz, label);
        if (owner == NONE) {
            throw new NoSuchElementException("no such method");
        }
        return owner;
    }

    public int run(int term) throws IndexOutOfBoundsException, IllegalStateException {
        needTerm(term);
        needFine(typing.errorOf(term));
        machine.start(term, false, last);
        return last.steps;
    }

    public int runBySearch(int term) throws IndexOutOfBoundsException, IllegalStateException {
        needTerm(term);
        needFine(typing.errorOf(term));
        machine.start(term, true, last);
        return last.steps;
    }

    public char outcome() {
        return last.way;
    }

    public int result() throws NoSuchElementException {
        if (last.way != 'n') {
            throw new NoSuchElementException("no number came");
        }
        return last.detail;
    }

    public int resultLabel() throws NoSuchElementException {
        if (last.way != 'v') {
            throw new NoSuchElementException("no variant came");
        }
        return last.detail;
    }

    public int resultField(int label) throws IllegalArgumentException, NoSuchElementException {
        needLabel(label);
        if (last.way != 'r' || !last.isNumber[label]) {
            throw new NoSuchElementException("no number for this label came");
        }
        return last.numbers[label];
    }

    public int resultClass() throws NoSuchElementException {
        if (last.way != 'o') {
            throw new NoSuchElementException("no object came");
        }
        return last.detail;
    }

    public int hits(int term) throws IndexOutOfBoundsException, NoSuchElementException {
        needTerm(term);
        needSend(term);
        return caches.hitCount[term];
    }

    public int misses(int term) throws IndexOutOfBoundsException, NoSuchElementException {
        needTerm(term);
        needSend(term);
        return caches.missCount[term];
    }

    public float hitShare() throws ArithmeticException {
        needSent();
        return shareOfHits();
    }

    public int hitShareBits() throws ArithmeticException {
        needSent();
        return bitsOf(shareOfHits());
    }

    public double meanLength() throws ArithmeticException {
        int sum = 0;
        int count = 0;
        for (int term = 0; term < program.count; term++) {
            if (program.isWhole(term) && typing.errorOf(term) == FINE) {
                sum += typing.shown.length[term];
                count++;
            }
        }
        if (count == 0) {
            throw new ArithmeticException("there are no such terms");
        }
        return (double) sum / (double) count;
    }

    public boolean isSound() {
        boolean holds = true;
        for (int term = 0; term < program.count && holds; term++) {
            if (program.isWhole(term) && typing.errorOf(term) == FINE) {
                types.forget();
                holds = isAccepted(readShown(term, false), term) && isAsGeneral(term, term) && endsAlike(term);
            }
        }
        return holds;
    }

    // ---- What calls need ----

    private int addLabelled(int kind, int part, int label) {
        needLabel(label);
        needTerm(part);
        needFree(part);
        needRoom();
        return program.addTerm(kind, label, NONE, part, NONE, NONE);
    }

    private void needName(int name) {
        if (name < 0 || name >= NAMES) {
            throw new IllegalArgumentException("no such name");
        }
    }

    private void needLabel(int label) {
        if (label < 0 || label >= LABELS) {
            throw new IllegalArgumentException("no such label");
        }
    }

    private void needTerm(int term) {
        if (!program.isThere(term) || program.kind[term] >= NO_CASES) {
            throw new IndexOutOfBoundsException("no such term");
        }
    }

    private void needCases(int term) {
        if (!program.isThere(term) || program.kind[term] < NO_CASES) {
            throw new IndexOutOfBoundsException("no such cases");
        }
    }

    private void needFree(int part) {
        if (program.holder[part] != NONE) {
            throw new UnsupportedOperationException("it is a part already");
        }
    }

    private void needFreeAndOther(int part, int other) {
        needFree(part);
        needFree(other);
        if (part == other) {
            throw new UnsupportedOperationException("two parts are the same");
        }
    }

    private void needRoom() {
        if (program.count >= TERM_LIMIT) {
            throw new IllegalStateException("there are 80 terms");
        }
    }

    private void needClass(int clazz) {
        if (clazz < 0 || clazz >= program.classCount) {
            throw new NoSuchElementException("no such class");
        }
    }

    private void needFine(char error) {
        if (error != FINE) {
            throw new IllegalStateException("the term has no type");
        }
    }

    private void needSend(int term) {
        if (program.kind[term] != SEND) {
            throw new NoSuchElementException("the term does not send");
        }
    }

    private void needSent() {
        if (caches.sumOfHits() + caches.sumOfMisses() == 0) {
            throw new ArithmeticException("there were no hits and no misses");
        }
    }

    // ---- What calls share ----

    /** The shown text tells all of a type, so reading it gives the type with new variables. */
    private int readShown(int term, boolean fixed) {
        return reader.readType(typing.shown.text, term * TEXT_ROOM, typing.shown.length[term], fixed);
    }

    private boolean isAccepted(int type, int term) {
        int own = readShown(term, false);
        return type != NONE && own != NONE && types.unify(type, own);
    }

    private boolean isAsGeneral(int term, int other) {
        types.forget();
        int type = readShown(term, false);
        int target = readShown(other, true);
        return type != NONE && target != NONE && types.unify(type, target);
    }

    /** A check is no run: what the caches keep and count is put back behind it. */
    private boolean endsAlike(int term) {
        caches.save();
        machine.start(term, false, withCaches);
        caches.putBack();
        machine.start(term, true, withoutCaches);
        return withCaches.isLike(withoutCaches);
    }

    private float shareOfHits() {
        int all = caches.sumOfHits() + caches.sumOfMisses();
        return all == 0 ? 0 : (float) caches.sumOfHits() / (float) all;
    }

    private static int bitsOf(float share) {
        if (share <= 0) {
            return 0;
        }
        float scaled = share;
        int exponent = 127;
        for (int i = 0; i < 126 && scaled < 1; i++) {
            scaled = scaled * 2;
            exponent--;
        }
        return (exponent << 23) + (int) ((scaled - 1) * 8388608);
    }

    /** The terms and the classes, as they were made. */
    private static final class Program {
        int count;
        final int[] kind = new int[TERM_LIMIT];
        final int[] detail = new int[TERM_LIMIT];
        final int[] boundName = new int[TERM_LIMIT];
        final int[] partCount = new int[TERM_LIMIT];
        final int[] holder = new int[TERM_LIMIT];
        final boolean[] isValue = new boolean[TERM_LIMIT];
        private final int[] parts = new int[MOST_PARTS * TERM_LIMIT];
        int classCount;
        final int[] selfName = new int[CLASS_LIMIT];
        final int[] parentClass = new int[CLASS_LIMIT];
        final boolean[] isComplete = new boolean[CLASS_LIMIT];
        private final int[] bodies = new int[CLASS_LIMIT * LABELS];

        boolean isThere(int term) {
            return term >= 0 && term < count;
        }

        boolean isWhole(int term) {
            return kind[term] < NO_CASES && holder[term] == NONE;
        }

        /** A term's detail is its number, its label or labels, or its class. */
        int addTerm(int newKind, int newDetail, int newName, int first, int second, int third) {
            int term = count;
            if (term >= TERM_LIMIT) {
                return NONE;
            }
            count++;
            kind[term] = newKind;
            detail[term] = newDetail;
            boundName[term] = newName;
            holder[term] = NONE;
            addPart(term, first);
            addPart(term, second);
            addPart(term, third);
            isValue[term] = hasValue(term);
            if (newKind == MAKE) {
                isComplete[newDetail] = true;
            }
            return term;
        }

        private void addPart(int term, int part) {
            if (part != NONE && partCount[term] < MOST_PARTS) {
                parts[MOST_PARTS * term + partCount[term]] = part;
                partCount[term]++;
                holder[part] = term;
            }
        }

        private boolean hasValue(int term) {
            switch (kind[term]) {
                case NUMBER:
                case NAME:
                case FUNCTION:
                case RECORD:
                    return true;
                case WITH:
                    return isValue[partOf(term, 0)] && isValue[partOf(term, 1)];
                case VARIANT:
                    return isValue[partOf(term, 0)];
                default:
                    return false;
            }
        }

        int partOf(int term, int index) {
            return parts[MOST_PARTS * term + index];
        }

        /** Whether a term that is no part, or one in it, makes an object of this class or a higher one. */
        boolean makesFrom(int whole, int clazz) {
            for (int term = 0; term < count; term++) {
                if (kind[term] == MAKE && detail[term] >= clazz && wholeOf(term) == whole) {
                    return true;
                }
            }
            return false;
        }

        private int wholeOf(int term) {
            int at = term;
            for (int i = 0; i < TERM_LIMIT && holder[at] >= 0; i++) {
                at = holder[at];
            }
            return at;
        }

        int putClass(int name, int parent) {
            int clazz = classCount;
            if (clazz >= CLASS_LIMIT) {
                return NONE;
            }
            classCount++;
            selfName[clazz] = name;
            parentClass[clazz] = parent;
            if (parent != NONE) {
                isComplete[parent] = true;
            }
            for (int label = 0; label < LABELS; label++) {
                bodies[clazz * LABELS + label] = NONE;
            }
            return clazz;
        }

        int putMethod(int clazz, int label, int body) {
            bodies[clazz * LABELS + label] = body;
            holder[body] = IN_METHOD;
            int own = 0;
            for (int each = 0; each < LABELS; each++) {
                own += bodyOf(clazz, each) != NONE ? 1 : 0;
            }
            return own;
        }

        int bodyOf(int clazz, int label) {
            return bodies[clazz * LABELS + label];
        }

        int ownerOf(int clazz, int label) {
            int at = clazz;
            for (int i = 0; i < CLASS_LIMIT && at != NONE; i++) {
                if (bodies[at * LABELS + label] != NONE) {
                    return at;
                }
                at = parentClass[at];
            }
            return NONE;
        }

        int labelsOf(int clazz) {
            int labels = 0;
            for (int label = 0; label < LABELS; label++) {
                if (ownerOf(clazz, label) != NONE) {
                    labels |= 1 << label;
                }
            }
            return labels;
        }
    }

    /**
     * Types and rows as nodes of one pool: a function has two parts, a record, variant or object its
     * row, a label its type and the rest of the row; a variable's link tells what was put for it.
     */
    private static final class Types {
        final int[] kind = new int[NODE_LIMIT];
        final int[] first = new int[NODE_LIMIT];
        final int[] second = new int[NODE_LIMIT];
        /** The label of a label, or the labels that a row variable lacks. */
        final int[] info = new int[NODE_LIMIT];
        private final int[] link = new int[NODE_LIMIT];
        private final int[] mark = new int[NODE_LIMIT];
        private final int[] copies = new int[NODE_LIMIT];
        private final int[] work = new int[WORK_LIMIT];
        private int workCount;
        private final int[] oneRow = new int[LABELS + 1];
        private final int[] otherRow = new int[LABELS + 1];
        private int stamp;
        private int count;
        private int kept;
        boolean isFull;

        Types() {
            kind[INT_NODE] = INT_TYPE;
            kind[CLOSED_NODE] = CLOSED_ROW;
            link[INT_NODE] = NONE;
            link[CLOSED_NODE] = NONE;
            count = 2;
            kept = 2;
        }

        /** Gives all nodes up but those that classes keep. */
        void forget() {
            count = kept;
            isFull = false;
        }

        void keep() {
            kept = count;
        }

        int newNode(int newKind, int newFirst, int newSecond, int newInfo) {
            if (count >= NODE_LIMIT) {
                isFull = true;
                return INT_NODE;
            }
            int node = count;
            count++;
            kind[node] = newKind;
            first[node] = newFirst;
            second[node] = newSecond;
            info[node] = newInfo;
            link[node] = NONE;
            return node;
        }

        int newVariable() {
            return newNode(VARIABLE, INT_NODE, INT_NODE, 0);
        }

        int newRowVariable(int lacks) {
            return newNode(ROW_VARIABLE, INT_NODE, INT_NODE, lacks);
        }

        int newFunction(int left, int right) {
            return newNode(FUNCTION_TYPE, left, right, 0);
        }

        /** A record, a variant or an object. */
        int newRowed(int newKind, int row) {
            return newNode(newKind, row, INT_NODE, 0);
        }

        int newLabel(int label, int type, int rest) {
            return newNode(LABEL_ROW, type, rest, label);
        }

        int newLabels(int labels, int[] typesOfLabels, int end) {
            int row = end;
            for (int label = LABELS - 1; label >= 0; label--) {
                if ((labels >> label & 1) != 0) {
                    row = newNode(LABEL_ROW, typesOfLabels[label], row, label);
                }
            }
            return row;
        }

        int resolve(int node) {
            int at = node;
            for (int i = 0; i < NODE_LIMIT && link[at] != NONE; i++) {
                at = link[at];
            }
            return at;
        }

        private void push(int item) {
            if (workCount >= WORK_LIMIT) {
                isFull = true;
                return;
            }
            work[workCount] = item;
            workCount++;
        }

        private void pushParts(int node) {
            int kindOfNode = kind[node];
            if (kindOfNode == FUNCTION_TYPE || kindOfNode == LABEL_ROW) {
                push(second[node]);
                push(first[node]);
            } else if (kindOfNode >= RECORD_TYPE && kindOfNode <= OBJECT_TYPE) {
                push(first[node]);
            }
        }

        /** Puts the types of a row's labels, and behind them its end, into an array. */
        int gather(int row, int[] into) {
            int labels = 0;
            int at = resolve(row);
            for (int i = 0; i < LABELS && kind[at] == LABEL_ROW; i++) {
                into[info[at]] = first[at];
                labels |= 1 << info[at];
                at = resolve(second[at]);
            }
            into[LABELS] = at;
            return labels;
        }

        /**
         * Makes two types the same, or tells that they cannot be. Functions and rows that were made the
         * same become one node, so that nothing is done twice; what contains itself is found at the end.
         */
        boolean unify(int one, int other) {
            workCount = 0;
            push(one);
            push(other);
            boolean isSame = true;
            for (int i = 0; i < WORK_LIMIT && isSame && workCount > 1; i++) {
                workCount -= 2;
                int left = resolve(work[workCount]);
                int right = resolve(work[workCount + 1]);
                if (left != right) {
                    isSame = kind[left] == kind[right] && isRowed(left) ? joinRows(left, right) : join(left, right);
                }
            }
            return isSame && workCount == 0 && !isFull && isFinite(one);
        }

        private boolean isRowed(int node) {
            return kind[node] >= RECORD_TYPE && kind[node] <= OBJECT_TYPE;
        }

        private boolean join(int left, int right) {
            if (kind[left] == VARIABLE) {
                link[left] = right;
                return true;
            }
            if (kind[right] == VARIABLE) {
                link[right] = left;
                return true;
            }
            if (kind[left] != FUNCTION_TYPE || kind[right] != FUNCTION_TYPE) {
                return false;
            }
            link[left] = right;
            push(second[left]);
            push(second[right]);
            push(first[left]);
            push(first[right]);
            return true;
        }

        private boolean joinRows(int left, int right) {
            link[left] = right;
            int oneLabels = gather(first[left], oneRow);
            int otherLabels = gather(first[right], otherRow);
            pushCommon(oneLabels & otherLabels);
            int oneMore = oneLabels & ~otherLabels;
            int otherMore = otherLabels & ~oneLabels;
            int oneEnd = oneRow[LABELS];
            int otherEnd = otherRow[LABELS];
            if (oneEnd == otherEnd) {
                return oneMore == 0 && otherMore == 0;
            }
            boolean isOneOpen = kind[oneEnd] == ROW_VARIABLE;
            boolean isOtherOpen = kind[otherEnd] == ROW_VARIABLE;
            if (!isOneOpen && !isOtherOpen
                    || !canBecome(oneEnd, otherMore, otherEnd) || !canBecome(otherEnd, oneMore, oneEnd)) {
                return false;
            }
            int end = isOneOpen ? otherEnd : oneEnd;
            if (isOneOpen && isOtherOpen) {
                end = newNode(ROW_VARIABLE, INT_NODE, INT_NODE, info[oneEnd] | info[otherEnd]);
            }
            if (isOneOpen) {
                link[oneEnd] = newLabels(otherMore, otherRow, end);
            }
            if (isOtherOpen) {
                link[otherEnd] = newLabels(oneMore, oneRow, end);
            }
            return true;
        }

        private void pushCommon(int labels) {
            for (int label = 0; label < LABELS; label++) {
                if ((labels >> label & 1) != 0) {
                    push(oneRow[label]);
                    push(otherRow[label]);
                }
            }
        }

        /** Whether some labels, and another end, can stand where the end of a row stands. */
        private boolean canBecome(int end, int labels, int newEnd) {
            if (kind[end] != ROW_VARIABLE) {
                return labels == 0;
            }
            return (labels & info[end]) == 0 && (kind[newEnd] != FIXED_ROW || (info[end] & ~info[newEnd]) == 0);
        }

        /** Whether a type is no part of itself; work below 0 tells that all in a node was seen. */
        private boolean isFinite(int type) {
            stamp += 2;
            workCount = 0;
            push(type);
            for (int i = 0; i < WORK_LIMIT && workCount > 0; i++) {
                workCount--;
                int item = work[workCount];
                if (item < 0) {
                    mark[-item - 1] = stamp + 1;
                } else {
                    int node = resolve(item);
                    if (mark[node] == stamp) {
                        return false;
                    }
                    if (mark[node] != stamp + 1) {
                        mark[node] = stamp;
                        push(-node - 1);
                        pushParts(node);
                    }
                }
            }
            return true;
        }

        boolean isLarge(int type) {
            int parts = 0;
            workCount = 0;
            push(type);
            for (int i = 0; i < WORK_LIMIT && workCount > 0 && parts <= SIZE_LIMIT; i++) {
                workCount--;
                int node = resolve(work[workCount]);
                parts += node != CLOSED_NODE ? 1 : 0;
                pushParts(node);
            }
            return parts > SIZE_LIMIT;
        }

        /** From here on, no variable is in a type of a name. */
        void unmark() {
            stamp += 2;
        }

        void markAll(int type) {
            workCount = 0;
            push(type);
            for (int i = 0; i < WORK_LIMIT && workCount > 0; i++) {
                workCount--;
                int node = resolve(work[workCount]);
                if (mark[node] != stamp) {
                    mark[node] = stamp;
                    pushParts(node);
                }
            }
        }

        /** Fixes the variables of a type that are not marked: the type is for all of them. */
        void generalise(int type, boolean isOfValue) {
            if (!isOfValue) {
                visitVariables(type, false);
            }
            visitVariables(type, true);
        }

        /** Fixes the variables, or marks those on left sides; work is odd on left sides. */
        private void visitVariables(int type, boolean isFixing) {
            workCount = 0;
            push(2 * type);
            for (int i = 0; i < WORK_LIMIT && workCount > 0; i++) {
                workCount--;
                int side = work[workCount] & 1;
                int node = resolve(work[workCount] >> 1);
                if (kind[node] == FUNCTION_TYPE || kind[node] == LABEL_ROW) {
                    push(2 * second[node] + side);
                    push(2 * first[node] + (kind[node] == FUNCTION_TYPE ? 1 - side : side));
                } else if (isRowed(node)) {
                    push(2 * first[node] + side);
                } else if ((kind[node] == VARIABLE || kind[node] == ROW_VARIABLE) && mark[node] != stamp) {
                    if (isFixing) {
                        kind[node] = kind[node] == VARIABLE ? FIXED_VARIABLE : FIXED_ROW;
                    } else if (side == 1) {
                        mark[node] = stamp;
                    }
                }
            }
        }

        /** A type or row with new variables for the fixed ones, or for all. */
        int copy(int type, boolean isForAll) {
            stamp += 2;
            workCount = 0;
            int answer = copyOf(type, isForAll);
            for (int i = 0; i < WORK_LIMIT && workCount > 0; i++) {
                workCount--;
                int node = work[workCount];
                int copied = copies[node];
                first[copied] = copyOf(first[node], isForAll);
                second[copied] = copyOf(second[node], isForAll);
            }
            return answer;
        }

        private int copyOf(int part, boolean isForAll) {
            int node = resolve(part);
            int kindOfNode = kind[node];
            if (kindOfNode == INT_TYPE || kindOfNode == CLOSED_ROW) {
                return node;
            }
            if ((kindOfNode == VARIABLE || kindOfNode == ROW_VARIABLE) && !isForAll) {
                return node;
            }
            if (mark[node] == stamp) {
                return copies[node];
            }
            int newKind = kindOfNode == FIXED_VARIABLE ? VARIABLE
                    : kindOfNode == FIXED_ROW ? ROW_VARIABLE : kindOfNode;
            mark[node] = stamp;
            copies[node] = newNode(newKind, INT_NODE, INT_NODE, info[node]);
            if (kindOfNode <= LABEL_ROW) {
                push(node);
            }
            return copies[node];
        }
    }

    /** The errors, and the texts of the types, of the terms that were typed by themselves. */
    private static final class Shown {
        final char[] error = new char[TERM_LIMIT];
        final int[] errorTerm = new int[TERM_LIMIT];
        final int[] length = new int[TERM_LIMIT];
        final int[] variableCount = new int[TERM_LIMIT];
        final char[] text = new char[TERM_LIMIT * TEXT_ROOM];
    }

    /**
     * Types terms and classes. What a term or a class is typed with never changes: terms stay as they
     * are, and a class is complete before an object of it is made; so each is typed once.
     */
    private static final class Typing {
        final Shown shown;
        private final Program program;
        private final Types types;
        private final TypeWriter writer;
        private final int[] typeOfName = new int[NAMES];
        private final boolean[] isNameForAll = new boolean[NAMES];
        private final int[] hiddenType = new int[TERM_LIMIT];
        private final boolean[] isHiddenForAll = new boolean[TERM_LIMIT];
        private final int[] boundType = new int[TERM_LIMIT];
        private final int[] typeOf = new int[TERM_LIMIT];
        private final int[] open = new int[TERM_LIMIT];
        private final int[] stage = new int[TERM_LIMIT];
        private int depth;
        private int failedAt;
        private final int[] typesOfLabels = new int[LABELS + 1];
        private final char[] classError = new char[CLASS_LIMIT];
        private final int[] classRow = new int[CLASS_LIMIT];

        Typing(Program newProgram, Types newTypes) {
            shown = new Shown();
            program = newProgram;
            types = newTypes;
            writer = new TypeWriter(newTypes);
        }

        char errorOf(int term) {
            if (shown.error[term] == UNTYPED) {
                types.forget();
                clearNames();
                shown.error[term] = walk(term);
                shown.errorTerm[term] = failedAt;
                if (shown.error[term] == FINE) {
                    shown.length[term] = writer.writeType(typeOf[term], shown.text, term * TEXT_ROOM);
                    shown.variableCount[term] = writer.variableCount;
                }
            }
            return shown.error[term];
        }

        /** A class is typed as soon as it is complete, so those that it needs have been typed. */
        void typeClass(int clazz) {
            if (classError[clazz] != UNTYPED) {
                return;
            }
            types.forget();
            int parent = program.parentClass[clazz];
            char error = parent == NONE ? FINE : classError[parent];
            int row = INT_NODE;
            if (error == FINE) {
                row = parent == NONE ? types.newRowVariable(0) : types.copy(classRow[parent], true);
            }
            int self = types.newRowed(OBJECT_TYPE, row);
            for (int label = 0; label < LABELS && error == FINE; label++) {
                int body = program.bodyOf(clazz, label);
                if (body != NONE) {
                    clearNames();
                    typeOfName[program.selfName[clazz]] = self;
                    error = walk(body);
                    if (error == FINE) {
                        error = sendsBack(self, label, typeOf[body]);
                    }
                }
            }
            classError[clazz] = error;
            classRow[clazz] = row;
            if (error == FINE) {
                types.keep();
            }
        }

        private char sendsBack(int object, int label, int type) {
            int rest = types.newRowVariable(1 << label);
            int needed = types.newRowed(OBJECT_TYPE, types.newLabel(label, type, rest));
            return types.unify(object, needed) ? FINE : NOT_THE_SAME;
        }

        private void clearNames() {
            for (int name = 0; name < NAMES; name++) {
                typeOfName[name] = NONE;
                isNameForAll[name] = false;
            }
        }

        /** Types a term with the types that names have; its parts first, without recursion. */
        private char walk(int whole) {
            depth = 0;
            begin(whole);
            char error = FINE;
            for (int i = 0; i < TERM_LIMIT * (MOST_PARTS + 1) && depth > 0 && error == FINE; i++) {
                int term = open[depth - 1];
                int index = stage[depth - 1];
                if (index < program.partCount[term]) {
                    stage[depth - 1] = index + 1;
                    prepare(term, index);
                    begin(program.partOf(term, index));
                } else {
                    depth--;
                    failedAt = term;
                    int kind = program.kind[term];
                    error = kind < RECORD ? closeBasic(term)
                            : kind < NARROW ? closeRowed(term)
                            : kind == NARROW ? closeNarrow(term)
                            : kind == MAKE ? closeMake(term)
                            : kind == MATCH ? closeMatch(term) : closeCases(term);
                    if (error == FINE && kind < NO_CASES && (types.isLarge(typeOf[term]) || types.isFull)) {
                        error = TOO_LARGE;
                    }
                }
            }
            return error;
        }

        private void begin(int term) {
            if (depth < TERM_LIMIT) {
                open[depth] = term;
                stage[depth] = 0;
                depth++;
            }
        }

        /** What happens to the names ahead of a part. */
        private void prepare(int term, int index) {
            switch (program.kind[term]) {
                case FUNCTION:
                    bind(term, types.newVariable(), false);
                    break;
                case LET:
                    if (index == 1) {
                        int first = program.partOf(term, 0);
                        markNames();
                        types.generalise(typeOf[first], program.isValue[first]);
                        bind(term, typeOf[first], true);
                    }
                    break;
                case CASE:
                    if (index == 0) {
                        bind(term, types.newVariable(), false);
                    } else {
                        unbind(term);
                    }
                    break;
                case OTHER_CASES:
                    bind(term, types.newRowed(VARIANT_TYPE, types.newRowVariable(labelsAhead(term))), false);
                    break;
                default:
                    break;
            }
        }

        private void bind(int term, int type, boolean isForAll) {
            int name = program.boundName[term];
            hiddenType[term] = typeOfName[name];
            isHiddenForAll[term] = isNameForAll[name];
            typeOfName[name] = type;
            isNameForAll[name] = isForAll;
            boundType[term] = type;
        }

        private void unbind(int term) {
            int name = program.boundName[term];
            typeOfName[name] = hiddenType[term];
            isNameForAll[name] = isHiddenForAll[term];
        }

        private void markNames() {
            types.unmark();
            for (int name = 0; name < NAMES; name++) {
                if (typeOfName[name] != NONE) {
                    types.markAll(typeOfName[name]);
                }
            }
        }

        private int labelsAhead(int cases) {
            int labels = 0;
            int at = program.holder[cases];
            for (int i = 0; i < TERM_LIMIT && at >= 0 && program.kind[at] == CASE; i++) {
                labels |= 1 << program.detail[at];
                at = program.holder[at];
            }
            return labels;
        }

        private int typeOfPart(int term, int index) {
            return index < program.partCount[term] ? typeOf[program.partOf(term, index)] : INT_NODE;
        }

        private char closeBasic(int term) {
            int first = typeOfPart(term, 0);
            int second = typeOfPart(term, 1);
            boolean isSame = true;
            switch (program.kind[term]) {
                case NAME:
                    int name = program.boundName[term];
                    if (typeOfName[name] == NONE) {
                        return NO_TYPE_OF_NAME;
                    }
                    typeOf[term] = isNameForAll[name] ? types.copy(typeOfName[name], false) : typeOfName[name];
                    break;
                case FUNCTION:
                    unbind(term);
                    typeOf[term] = types.newFunction(boundType[term], first);
                    break;
                case APPLY:
                    typeOf[term] = types.newVariable();
                    isSame = types.unify(first, types.newFunction(second, typeOf[term]));
                    break;
                case LET:
                    unbind(term);
                    typeOf[term] = second;
                    break;
                case SUM:
                    typeOf[term] = INT_NODE;
                    isSame = types.unify(first, INT_NODE) && types.unify(second, INT_NODE);
                    break;
                case CHOICE:
                    typeOf[term] = second;
                    isSame = types.unify(first, INT_NODE) && types.unify(second, typeOfPart(term, 2));
                    break;
                default:
                    typeOf[term] = INT_NODE;
                    break;
            }
            return isSame ? FINE : NOT_THE_SAME;
        }

        private char closeRowed(int term) {
            int label = program.detail[term];
            int first = typeOfPart(term, 0);
            switch (program.kind[term]) {
                case RECORD:
                    typeOf[term] = types.newRowed(RECORD_TYPE, CLOSED_NODE);
                    return FINE;
                case VARIANT:
                    int others = types.newRowVariable(1 << label);
                    typeOf[term] = types.newRowed(VARIANT_TYPE, types.newLabel(label, first, others));
                    return FINE;
                default:
                    break;
            }
            int rest = types.newRowVariable(1 << label);
            if (program.kind[term] == WITH) {
                typeOf[term] = types.newRowed(RECORD_TYPE, types.newLabel(label, first, rest));
                return types.unify(typeOfPart(term, 1), types.newRowed(RECORD_TYPE, rest)) ? FINE : NOT_THE_SAME;
            }
            int field = types.newVariable();
            int kind = program.kind[term] == SEND ? OBJECT_TYPE : RECORD_TYPE;
            int needed = types.newRowed(kind, types.newLabel(label, field, rest));
            typeOf[term] = program.kind[term] == WITHOUT ? types.newRowed(RECORD_TYPE, rest) : field;
            return types.unify(first, needed) ? FINE : NOT_THE_SAME;
        }

        private char closeNarrow(int term) {
            int labels = program.detail[term];
            putNewVariables();
            int openRow = types.newLabels(labels, typesOfLabels, types.newRowVariable(labels));
            typeOf[term] = types.newRowed(OBJECT_TYPE, types.newLabels(labels, typesOfLabels, CLOSED_NODE));
            int needed = types.newRowed(OBJECT_TYPE, openRow);
            return types.unify(typeOfPart(term, 0), needed) ? FINE : NOT_THE_SAME;
        }

        private char closeMake(int term) {
            int clazz = program.detail[term];
            if (classError[clazz] != FINE) {
                return classError[clazz];
            }
            putNewVariables();
            int row = types.newLabels(program.labelsOf(clazz), typesOfLabels, CLOSED_NODE);
            typeOf[term] = types.newRowed(OBJECT_TYPE, types.copy(classRow[clazz], true));
            return types.unify(typeOf[term], types.newRowed(OBJECT_TYPE, row)) ? FINE : NOT_THE_SAME;
        }

        private void putNewVariables() {
            for (int label = 0; label < LABELS; label++) {
                typesOfLabels[label] = types.newVariable();
            }
        }

        private char closeMatch(int term) {
            int answer = NONE;
            int labels = 0;
            boolean isSame = true;
            int at = program.partOf(term, 1);
            for (int i = 0; i < TERM_LIMIT && isSame && program.kind[at] == CASE; i++) {
                int label = program.detail[at];
                int body = typeOfPart(at, 0);
                if ((labels >> label & 1) != 0) {
                    isSame = types.unify(typesOfLabels[label], boundType[at]);
                } else {
                    typesOfLabels[label] = boundType[at];
                    labels |= 1 << label;
                }
                isSame = isSame && (answer == NONE || types.unify(answer, body));
                answer = body;
                at = program.partOf(at, 1);
            }
            int end = CLOSED_NODE;
            if (isSame && program.kind[at] == OTHER_CASES) {
                end = types.first[boundType[at]];
                isSame = answer == NONE || types.unify(answer, typeOfPart(at, 0));
                answer = typeOfPart(at, 0);
            }
            typeOf[term] = answer == NONE ? types.newVariable() : answer;
            int needed = types.newRowed(VARIANT_TYPE, types.newLabels(labels, typesOfLabels, end));
            return isSame && types.unify(typeOfPart(term, 0), needed) ? FINE : NOT_THE_SAME;
        }

        /** The name of a case has been given back ahead of the further cases. */
        private char closeCases(int term) {
            if (program.kind[term] == OTHER_CASES) {
                unbind(term);
            }
            return FINE;
        }
    }

    /** Writes types as texts; work is a node, or a character as a number below 0. */
    private static final class TypeWriter {
        private final Types types;
        private final int[] work = new int[2 * TEXT_ROOM];
        private int workCount;
        private final int[] seen = new int[VARIABLE_NUMBERS];
        int variableCount;
        private final int[] row = new int[LABELS + 1];
        private char[] into;
        private int from;
        private int length;

        TypeWriter(Types newTypes) {
            types = newTypes;
            into = new char[0];
        }

        int writeType(int type, char[] newInto, int newFrom) {
            into = newInto;
            from = newFrom;
            length = 0;
            workCount = 0;
            variableCount = 0;
            push(type);
            for (int i = 0; i < WORK_LIMIT && workCount > 0; i++) {
                workCount--;
                int item = work[workCount];
                if (item < 0) {
                    put((char) -item);
                } else {
                    writeNode(types.resolve(item));
                }
            }
            return length;
        }

        private void push(int item) {
            if (workCount < work.length) {
                work[workCount] = item;
                workCount++;
            }
        }

        private void put(char character) {
            if (length < TEXT_ROOM && from + length < into.length) {
                into[from + length] = character;
                length++;
            }
        }

        private void writeNode(int node) {
            switch (types.kind[node]) {
                case INT_TYPE:
                    put('i');
                    put('n');
                    put('t');
                    break;
                case FUNCTION_TYPE:
                    pushFunction(node);
                    break;
                case RECORD_TYPE:
                case VARIANT_TYPE:
                case OBJECT_TYPE:
                    pushRow(node, types.kind[node] - RECORD_TYPE);
                    break;
                case VARIABLE:
                    putVariable(node);
                    break;
                case ROW_VARIABLE:
                    putVariable(node);
                    putLacks(types.info[node]);
                    break;
                default:
                    break;
            }
        }

        private void pushFunction(int node) {
            boolean isBracketed = types.kind[types.resolve(types.first[node])] == FUNCTION_TYPE;
            push(types.second[node]);
            push(-' ');
            push(-'>');
            push(-'-');
            push(-' ');
            if (isBracketed) {
                push(-')');
            }
            push(types.first[node]);
            if (isBracketed) {
                push(-'(');
            }
        }

        private void pushRow(int node, int rowed) {
            int labels = types.gather(types.first[node], row);
            put(OPENINGS.charAt(rowed));
            push(-CLOSINGS.charAt(rowed));
            if (row[LABELS] != CLOSED_NODE) {
                push(row[LABELS]);
                push(-'|');
            }
            for (int label = LABELS - 1; label >= 0; label--) {
                if ((labels >> label & 1) != 0) {
                    push(row[label]);
                    push(-':');
                    push(-('0' + label));
                    if ((labels & (1 << label) - 1) != 0) {
                        push(-',');
                    }
                }
            }
        }

        private void putVariable(int node) {
            int number = 0;
            for (int i = 0; i < VARIABLE_NUMBERS && number < variableCount && seen[number] != node; i++) {
                number++;
            }
            if (number == variableCount && variableCount < VARIABLE_NUMBERS) {
                seen[number] = node;
                variableCount++;
            }
            put('\'');
            if (number >= 10) {
                put((char) ('0' + number / 10));
            }
            put((char) ('0' + number % 10));
        }

        private void putLacks(int lacks) {
            put('-');
            for (int label = 0; label < LABELS; label++) {
                if ((lacks >> label & 1) != 0) {
                    put((char) ('0' + label));
                }
            }
        }
    }

    /** Reads texts as types, from left to right; what is open stands in frames. */
    private static final class TypeReader {
        /** A frame is an arrow, a bracket ( or the type that has the row that is read. */
        private static final int ARROW = 100;
        private static final int BRACKET = 101;

        // What is due next.
        private static final int BEGIN = 0;
        private static final int ENDED = 1;
        private static final int IN_ROW = 2;
        private static final int WHOLE = 3;
        private static final int WRONG = 4;

        private final Types types;
        private final int[] frame = new int[TEXT_ROOM];
        /** The left side of an arrow, or the first label of a row. */
        private final int[] frameNode = new int[TEXT_ROOM];
        private final int[] lastLabel = new int[TEXT_ROOM];
        private final int[] labelsAhead = new int[TEXT_ROOM];
        private int depth;
        private final int[] variable = new int[VARIABLE_NUMBERS];
        private char[] text;
        private int at;
        private int end;
        private boolean isFixed;
        private int state;
        private int type;

        TypeReader(Types newTypes) {
            types = newTypes;
            text = new char[0];
        }

        /** Returns the type, with fixed variables or others, or NONE if the text is no type. */
        int readType(char[] newText, int from, int size, boolean isFixing) {
            text = newText;
            at = from;
            end = from + size;
            isFixed = isFixing;
            depth = 0;
            type = NONE;
            state = BEGIN;
            Arrays.fill(variable, NONE);
            for (int i = 0; i < 4 * TEXT_ROOM && state != WHOLE && state != WRONG; i++) {
                if (state == BEGIN) {
                    readStart();
                } else if (state == ENDED) {
                    readOn();
                } else {
                    readRow();
                }
            }
            return state == WHOLE ? type : NONE;
        }

        private char next() {
            return at < end && at < text.length ? text[at] : (char) 0;
        }

        private boolean take(char character) {
            if (next() != character) {
                return false;
            }
            at++;
            return true;
        }

        private void setEnded(int newType) {
            type = newType;
            state = newType == NONE ? WRONG : ENDED;
        }

        private void pushFrame(int kind, int node, int newState) {
            if (depth >= TEXT_ROOM) {
                state = WRONG;
                return;
            }
            frame[depth] = kind;
            frameNode[depth] = node;
            lastLabel[depth] = NONE;
            labelsAhead[depth] = 0;
            depth++;
            state = newState;
        }

        private void readStart() {
            char character = next();
            int rowed = OPENINGS.indexOf(character);
            at++;
            if (rowed >= 0) {
                pushFrame(RECORD_TYPE + rowed, CLOSED_NODE, IN_ROW);
            } else if (character == '(') {
                pushFrame(BRACKET, NONE, BEGIN);
            } else if (character == '\'') {
                setEnded(readVariable(VARIABLE));
            } else {
                setEnded(character == 'i' && take('n') && take('t') ? INT_NODE : NONE);
            }
        }

        /** Where a type that is no function, or the right side of one, has ended. */
        private void readOn() {
            if (next() == ' ') {
                readArrow();
                return;
            }
            boolean isFunction = false;
            for (int i = 0; i < TEXT_ROOM && depth > 0 && frame[depth - 1] == ARROW; i++) {
                depth--;
                type = types.newFunction(frameNode[depth], type);
                isFunction = true;
            }
            if (depth == 0) {
                state = at == end ? WHOLE : WRONG;
            } else if (frame[depth - 1] != BRACKET) {
                closeLabel();
            } else if (isFunction && take(')')) {
                depth--;
                readArrow();
            } else {
                state = WRONG;
            }
        }

        private void readArrow() {
            if (take(' ') && take('-') && take('>') && take(' ')) {
                pushFrame(ARROW, type, BEGIN);
            } else {
                state = WRONG;
            }
        }

        private void closeLabel() {
            int label = lastLabel[depth - 1];
            if (label == NONE) {
                state = WRONG;
            } else {
                types.first[label] = type;
                state = IN_ROW;
            }
        }

        /** In a row, ahead of its first label or behind the type of one. */
        private void readRow() {
            int top = depth - 1;
            if (top < 0) {
                state = WRONG;
            } else if (take('|')) {
                closeRow(take('\'') ? readRowVariable() : NONE);
            } else if (next() == closing()) {
                closeRow(CLOSED_NODE);
            } else if (lastLabel[top] == NONE || take(',')) {
                readLabel();
            } else {
                state = WRONG;
            }
        }

        private char closing() {
            int rowed = depth > 0 ? frame[depth - 1] - RECORD_TYPE : NONE;
            return rowed >= 0 && rowed < CLOSINGS.length() ? CLOSINGS.charAt(rowed) : ' ';
        }

        private void readLabel() {
            int top = depth - 1;
            int label = next() - '0';
            at++;
            if (label < 0 || label >= LABELS || labelsAhead[top] >> label != 0 || !take(':')) {
                state = WRONG;
                return;
            }
            int node = types.newLabel(label, INT_NODE, CLOSED_NODE);
            if (lastLabel[top] == NONE) {
                frameNode[top] = node;
            } else {
                types.second[lastLabel[top]] = node;
            }
            lastLabel[top] = node;
            labelsAhead[top] |= 1 << label;
            state = BEGIN;
        }

        private void closeRow(int rowEnd) {
            int top = depth - 1;
            if (rowEnd == NONE || !take(closing())) {
                state = WRONG;
                return;
            }
            int row = rowEnd;
            if (lastLabel[top] != NONE) {
                types.second[lastLabel[top]] = rowEnd;
                row = frameNode[top];
            }
            depth = top;
            setEnded(types.newRowed(frame[top], row));
        }

        private int readVariable(int kind) {
            int number = next() - '0';
            at++;
            if (number < 0 || number > 9) {
                return NONE;
            }
            int digit = next() - '0';
            if (number != 0 && digit >= 0 && digit <= 9) {
                at++;
                number = 10 * number + digit;
            }
            int wanted = isFixed ? kind + FIXED_VARIABLE - VARIABLE : kind;
            if (variable[number] == NONE) {
                variable[number] = types.newNode(wanted, INT_NODE, INT_NODE, 0);
            }
            return types.kind[variable[number]] == wanted ? variable[number] : NONE;
        }

        private int readRowVariable() {
            int node = readVariable(ROW_VARIABLE);
            if (node == NONE || !take('-')) {
                return NONE;
            }
            int lacks = 0;
            int label = next() - '0';
            for (int i = 0; i < LABELS && label >= 0 && label < LABELS && lacks >> label == 0; i++) {
                lacks |= 1 << label;
                at++;
                label = next() - '0';
            }
            types.info[node] |= lacks | labelsAhead[depth - 1];
            return node;
        }
    }

    /** The values of a run, and the names that they are bound to. */
    private static final class Values {
        private int count;
        private final int[] kind = new int[STEP_LIMIT + 1];
        /** The number, the function's term, the variant's label, or the object's class. */
        private final int[] detail = new int[STEP_LIMIT + 1];
        /** The function's names, or the variant's value. */
        private final int[] inner = new int[STEP_LIMIT + 1];
        private final int[] fields = new int[(STEP_LIMIT + 1) * LABELS];
        private int scopeCount;
        private final int[] scopeName = new int[STEP_LIMIT + 1];
        private final int[] scopeValue = new int[STEP_LIMIT + 1];
        private final int[] outerScope = new int[STEP_LIMIT + 1];

        void clear() {
            count = 0;
            scopeCount = 0;
        }

        int newValue(int newKind, int newDetail, int newInner) {
            if (count > STEP_LIMIT) {
                return NONE;
            }
            int value = count;
            count++;
            kind[value] = newKind;
            detail[value] = newDetail;
            inner[value] = newInner;
            return value;
        }

        /** A record as another one, or as the empty one, but for one label. */
        int newRecord(int record, int label, int field) {
            int value = newValue(RECORD_VALUE, 0, NONE);
            if (value != NONE) {
                for (int each = 0; each < LABELS; each++) {
                    fields[value * LABELS + each] = fieldOf(record, each);
                }
                fields[value * LABELS + label] = field;
            }
            return value;
        }

        boolean isA(int value, int wanted) {
            return value >= 0 && value < count && kind[value] == wanted;
        }

        int detailOf(int value, int wanted) {
            return isA(value, wanted) ? detail[value] : NONE;
        }

        int innerOf(int value) {
            return value >= 0 && value < count ? inner[value] : NONE;
        }

        int numberOf(int value) {
            return isA(value, NUMBER_VALUE) ? detail[value] : 0;
        }

        int fieldOf(int record, int label) {
            return isA(record, RECORD_VALUE) ? fields[record * LABELS + label] : NONE;
        }

        int newScope(int name, int value, int outer) {
            if (scopeCount > STEP_LIMIT) {
                return NONE;
            }
            int scope = scopeCount;
            scopeCount++;
            scopeName[scope] = name;
            scopeValue[scope] = value;
            outerScope[scope] = outer;
            return scope;
        }

        int lookUp(int name, int scope) {
            int at = scope;
            for (int i = 0; i <= STEP_LIMIT && at >= 0 && at < scopeCount; i++) {
                if (scopeName[at] == name) {
                    return scopeValue[at];
                }
                at = outerScope[at];
            }
            return NONE;
        }
    }

    /** For each term that sends, the class that it keeps, with the class that has its method. */
    private static final class Caches {
        final int[] hitCount = new int[TERM_LIMIT];
        final int[] missCount = new int[TERM_LIMIT];
        private final int[] keptClass = new int[TERM_LIMIT];
        private final int[] keptOwner = new int[TERM_LIMIT];
        private final int[] savedHits = new int[TERM_LIMIT];
        private final int[] savedMisses = new int[TERM_LIMIT];
        private final int[] savedClass = new int[TERM_LIMIT];
        private final int[] savedOwner = new int[TERM_LIMIT];

        Caches() {
            Arrays.fill(keptClass, NONE);
            Arrays.fill(keptOwner, NONE);
        }

        int ownerOf(int term, int clazz, int label, Program program) {
            if (keptClass[term] == clazz) {
                hitCount[term]++;
            } else {
                missCount[term]++;
                keptClass[term] = clazz;
                keptOwner[term] = program.ownerOf(clazz, label);
            }
            return keptOwner[term];
        }

        int sumOfHits() {
            return sumOf(hitCount);
        }

        int sumOfMisses() {
            return sumOf(missCount);
        }

        private int sumOf(int[] counts) {
            int sum = 0;
            for (int each : counts) {
                sum += each;
            }
            return sum;
        }

        void save() {
            System.arraycopy(hitCount, 0, savedHits, 0, TERM_LIMIT);
            System.arraycopy(missCount, 0, savedMisses, 0, TERM_LIMIT);
            System.arraycopy(keptClass, 0, savedClass, 0, TERM_LIMIT);
            System.arraycopy(keptOwner, 0, savedOwner, 0, TERM_LIMIT);
        }

        void putBack() {
            System.arraycopy(savedHits, 0, hitCount, 0, TERM_LIMIT);
            System.arraycopy(savedMisses, 0, missCount, 0, TERM_LIMIT);
            System.arraycopy(savedClass, 0, keptClass, 0, TERM_LIMIT);
            System.arraycopy(savedOwner, 0, keptOwner, 0, TERM_LIMIT);
        }
    }

    /** How a run ended. */
    private static final class Ending {
        char way = '-';
        int steps;
        /** The number, the label or the class. */
        int detail;
        final boolean[] isNumber = new boolean[LABELS];
        final int[] numbers = new int[LABELS];

        void fill(char failure, int newSteps, int value, Values values) {
            steps = newSteps;
            detail = 0;
            way = failure;
            for (int label = 0; label < LABELS; label++) {
                int field = values.fieldOf(value, label);
                isNumber[label] = values.isA(field, NUMBER_VALUE);
                numbers[label] = values.numberOf(field);
            }
            if (failure == FINE && values.isA(value, NUMBER_VALUE)) {
                way = 'n';
                detail = values.numberOf(value);
            } else if (failure == FINE && values.isA(value, FUNCTION_VALUE)) {
                way = 'f';
            } else if (failure == FINE && values.isA(value, RECORD_VALUE)) {
                way = 'r';
            } else if (failure == FINE && values.isA(value, VARIANT_VALUE)) {
                way = 'v';
                detail = values.detailOf(value, VARIANT_VALUE);
            } else if (failure == FINE && values.isA(value, OBJECT_VALUE)) {
                way = 'o';
                detail = values.detailOf(value, OBJECT_VALUE);
            }
        }

        boolean isLike(Ending other) {
            boolean isLike = way == other.way && steps == other.steps && detail == other.detail;
            for (int label = 0; label < LABELS; label++) {
                isLike = isLike && isNumber[label] == other.isNumber[label]
                        && (!isNumber[label] || numbers[label] == other.numbers[label]);
            }
            return isLike;
        }
    }

    /** Runs terms; those that run within one another stand in frames. */
    private static final class Machine {
        private final Program program;
        private final Caches caches;
        private final Values values;
        private final int[] running = new int[DEPTH_LIMIT];
        private final int[] stage = new int[DEPTH_LIMIT];
        private final int[] scope = new int[DEPTH_LIMIT];
        private final int[] held = new int[DEPTH_LIMIT];
        private int depth;
        private int steps;
        private int answer;
        private char failure;
        private boolean isBySearch;

        Machine(Program newProgram, Caches newCaches) {
            program = newProgram;
            caches = newCaches;
            values = new Values();
        }

        void start(int term, boolean isSearching, Ending ending) {
            isBySearch = isSearching;
            depth = 0;
            steps = 0;
            answer = NONE;
            failure = FINE;
            values.clear();
            begin(term, NONE);
            for (int i = 0; i < STEP_LIMIT * (MOST_PARTS + 1) && depth > 0 && failure == FINE; i++) {
                move();
            }
            ending.fill(failure, steps, failure == FINE ? answer : NONE, values);
        }

        private void begin(int term, int newScope) {
            if (steps >= STEP_LIMIT) {
                failure = TOO_MANY_STEPS;
            } else if (depth >= DEPTH_LIMIT) {
                failure = TOO_DEEP;
            } else {
                steps++;
                running[depth] = term;
                stage[depth] = 0;
                scope[depth] = newScope;
                held[depth] = NONE;
                depth++;
            }
        }

        private void finish(int value) {
            answer = value;
            depth--;
        }

        private void move() {
            int top = depth - 1;
            int term = running[top];
            int done = stage[top];
            int ahead = partsAhead(program.kind[term]);
            stage[top] = done + 1;
            if (done == 1) {
                held[top] = answer;
            }
            if (done < ahead) {
                begin(program.partOf(term, done), scope[top]);
            } else if (done > ahead) {
                finish(answer);
            } else if (program.kind[term] == NUMBER || ahead == 0) {
                finishPlain(term, scope[top]);
            } else {
                conclude(term, held[top], scope[top]);
            }
        }

        /** How many parts are run ahead of the term's own work. */
        private int partsAhead(int kind) {
            switch (kind) {
                case APPLY:
                case SUM:
                case WITH:
                    return 2;
                case LET:
                case CHOICE:
                case GET:
                case WITHOUT:
                case VARIANT:
                case MATCH:
                case SEND:
                case NARROW:
                    return 1;
                default:
                    return 0;
            }
        }

        private void finishPlain(int term, int names) {
            switch (program.kind[term]) {
                case NAME:
                    finish(values.lookUp(program.boundName[term], names));
                    break;
                case FUNCTION:
                    finish(values.newValue(FUNCTION_VALUE, term, names));
                    break;
                case RECORD:
                    finish(values.newRecord(NONE, 0, NONE));
                    break;
                case MAKE:
                    finish(values.newValue(OBJECT_VALUE, program.detail[term], NONE));
                    break;
                default:
                    finish(values.newValue(NUMBER_VALUE, program.detail[term], NONE));
                    break;
            }
        }

        private void conclude(int term, int first, int names) {
            int detail = program.detail[term];
            switch (program.kind[term]) {
                case APPLY:
                    beginFunction(first);
                    break;
                case LET:
                    begin(program.partOf(term, 1), values.newScope(program.boundName[term], answer, names));
                    break;
                case SUM:
                    finish(values.newValue(NUMBER_VALUE, values.numberOf(first) + values.numberOf(answer), NONE));
                    break;
                case CHOICE:
                    begin(program.partOf(term, values.numberOf(answer) != 0 ? 1 : 2), names);
                    break;
                case WITH:
                    finish(values.newRecord(answer, detail, first));
                    break;
                case GET:
                    finish(values.fieldOf(answer, detail));
                    break;
                case WITHOUT:
                    finish(values.newRecord(answer, detail, NONE));
                    break;
                case VARIANT:
                    finish(values.newValue(VARIANT_VALUE, detail, answer));
                    break;
                case MATCH:
                    beginCase(program.partOf(term, 1), names);
                    break;
                case SEND:
                    beginMethod(term);
                    break;
                default:
                    finish(answer);
                    break;
            }
        }

        private void beginFunction(int function) {
            int term = values.detailOf(function, FUNCTION_VALUE);
            if (term == NONE) {
                finish(NONE);
                return;
            }
            int inner = values.newScope(program.boundName[term], answer, values.innerOf(function));
            begin(program.partOf(term, 0), inner);
        }

        private void beginCase(int cases, int names) {
            int label = values.detailOf(answer, VARIANT_VALUE);
            int at = cases;
            for (int i = 0; i < TERM_LIMIT && program.kind[at] == CASE && program.detail[at] != label; i++) {
                at = program.partOf(at, 1);
            }
            if (label == NONE || program.kind[at] == NO_CASES) {
                finish(NONE);
                return;
            }
            int bound = program.kind[at] == CASE ? values.innerOf(answer) : answer;
            begin(program.partOf(at, 0), values.newScope(program.boundName[at], bound, names));
        }

        private void beginMethod(int term) {
            int label = program.detail[term];
            int clazz = values.detailOf(answer, OBJECT_VALUE);
            if (clazz == NONE) {
                finish(NONE);
                return;
            }
            int owner = isBySearch ? program.ownerOf(clazz, label) : caches.ownerOf(term, clazz, label, program);
            if (owner == NONE) {
                finish(NONE);
                return;
            }
            int body = program.bodyOf(owner, label);
            begin(body, values.newScope(program.selfName[owner], answer, NONE));
        }
    }
}
