/** The boundaries of texts that are read: a test for each sentence of the document that names one. */
public final class TextBoundaryTest extends Bench {

    private static void types(boolean due, String... texts) {
        for (String text : texts) {
            x = new Rowan();
            due(due + " " + text, isType(text) + " " + text);
        }
    }

    private static void accepted(boolean due, int term, String... texts) {
        for (String text : texts) {
            due(due + " " + text, accepts(text, term) + " " + text);
        }
    }

    /** A term that has every type. */
    private static int anything() {
        int clazz = classOf(0, -1, x.send(v(0), 0));
        return x.send(x.make(clazz), 0);
    }

    // ---- Writing ----

    private static void lengths() {
        sentence(32, "an empty text");
        due(false, x.isType());
        x.write('i');
        x.erase();
        due(false, x.isType());
        due(0, x.erase());
        sentence(33, "an empty text is accepted for nothing");
        int any = anything();
        thrown(UNSUPPORTED, () -> x.accepts(any));
        sentence(30, "at most 200 characters are written");
        String most = "int -> int -> " + "'0 -> ".repeat(30) + "{|'1-}";
        due(200, most.length());
        for (int i = 0; i < 200; i++) {
            due(i + 1, x.write(most.charAt(i)));
        }
        due(true, x.isType());
        for (char sign : "i0 }".toCharArray()) {
            thrown(STATE, () -> x.write(sign));
        }
        due(true, x.isType());
        due(true, x.accepts(anything()));
        due(200, x.erase());
        due(1, x.write('i'));
        sentence(30, "200 characters of which the last one is wrong");
        text(most.substring(0, 199) + "0");
        due(false, x.isType());
        sentence(31, "all characters that were written");
        text("int");
        due(true, x.isType());
        due(3, x.erase());
        due(false, x.isType());
        due(0, x.erase());
        due(1, x.write('{'));
        due(2, x.write('}'));
        due(true, x.isType());
        sentence(30, "a character that is refused is not written");
        text("in");
        thrown(ARGUMENT, () -> x.write('T'));
        due(false, x.isType());
        due(3, x.write('t'));
        due(true, x.isType());
    }

    // ---- Reading ----

    private static void numbers() {
        sentence(32, "numbers of variables from 0 to 99");
        for (int i = 0; i <= 99; i++) {
            types(true, "'" + i, "{|'" + i + "-}");
        }
        types(false, "'100", "'101", "'999", "'-1", "'", "' 1", "'a", "''1", "{|'100-}", "{|'-}", "{|-}");
        // The sign behind '9' is ':'.
        types(false, "':", "'1:", "'9:", "{|':-}", "{|'1:-}", "{0:'1:}");
        sentence(32, "each number is a variable of its own");
        int[] numbers = {0, 1, 2, 9, 10, 11, 12, 19, 20, 21, 90, 91, 98, 99};
        for (int first : numbers) {
            for (int second : numbers) {
                x = new Rowan();
                accepted(first != second, identity(), "'" + first + " -> {1:'" + second + "}");
            }
        }
        sentence(32, "without zeros ahead");
        for (int i = 0; i <= 9; i++) {
            types(false, "'0" + i, "{|'0" + i + "-}");
        }
        types(false, "'000", "'010", "'00 -> int", "{1:'01}");
        sentence(32, "in any order");
        types(true, "'5 -> '3 -> '99 -> '0", "{0:'7,1:'2|'1-}", "'1", "{|'9-}");
    }

    private static void labels() {
        sentence(32, "with labels by rising numbers, and a row has no label twice");
        for (int first = 0; first < 10; first++) {
            for (int second = 0; second < 10; second++) {
                String labels = first + ":int," + second + ":'0";
                types(first < second, "{" + labels + "}", "[" + labels + "|'1-]", "<" + labels + ">");
            }
        }
        types(true, "{0:int,1:int,2:int,3:int,4:int,5:int,6:int,7:int,8:int,9:int}", "{0:{0:{0:int}}}");
        types(false, "{0:int,2:int,1:int}", "{0:int,1:int,0:int}", "{5:int,4:{4:int}}");
        sentence(32, "the labels 0 to 9");
        for (int label = 0; label < 10; label++) {
            types(true, "{" + label + ":int}");
        }
        types(false, "{::int}", "{9:int,::int}", "{|'0-:}", "{|'0-9:}");
        types(false, "{10:int}", "{01:int}", "{a:int}", "{-1:int}", "{:int}", "{99:int}");
        sentence(32, "\"-\" with or without labels behind each row variable");
        types(true, "{|'0-}", "[|'0-]", "<|'0->", "{|'0-0123456789}", "{1:int|'0-}", "{1:int|'0-1}", "{1:int|'0-0}");
        types(false, "{|'0}", "{1:int|'0}", "{|'0--}", "{|'0-,}", "{|'0-a}", "{|'0- }", "'0-", "'0- -> int", "{0:'0-}");
        for (int first = 0; first < 10; first++) {
            for (int second = 0; second < 10; second++) {
                types(first < second, "{|'0-" + first + second + "}");
            }
        }
    }

    private static void readAgain() {
        sentence(32, "a text that is no type leaves the next one as it is");
        String[] wrongs = {"{0:int", "(int -> ", "int -> {1:", "{0:'1|'1-}", "((int", "{0:int,0:"};
        for (String wrong : wrongs) {
            due(false, isType(wrong));
            due(true, isType("int -> {0:'1|'2-}"));
        }
        sentence(33, "a type is read as often as is asked");
        int large = functions(48, opened());
        accepted(true, large, "'0 -> '1 -> '2 -> '3 -> '4 -> '5 -> '6");
        for (int i = 0; i < 400; i++) {
            due(true, x.accepts(large));
        }
        sentence(29, "being general is asked as often as is wanted");
        int general = functions(48, opened());
        for (int i = 0; i < 400; i++) {
            due(true, x.isGeneral(general, general));
        }
    }

    private static void kinds() {
        sentence(32, "a variable that stands for a type cannot be a row variable");
        types(false, "{0:'0|'0-}", "'0 -> {|'0-}", "{|'0-} -> '0", "{|'0-} -> {0:'0}", "{0:{|'7-}} -> '7", "'99 -> [|'99-]");
        types(true, "{0:'0|'1-}", "'0 -> '0", "{|'0-} -> {|'0-}", "{|'0-} -> [|'0-] -> <|'0->", "'1 -> {|'10-}");
        sentence(32, "built as told: int");
        types(true, "int");
        types(false, "i", "in", "intt", "nt", "int ", " int", "int int", "integer");
        sentence(32, "built as told: functions");
        types(true, "int -> int", "int -> int -> int", "(int -> int) -> int", "((int -> int) -> int) -> int",
                "(int -> int -> int) -> int", "(int -> (int -> int) -> int) -> int", "(int -> int) -> (int -> int) -> int");
        types(false, "int->int", "int ->int", "int-> int", "int  -> int", "int ->  int", "int - > int", "int > int",
                "int - int", "int -> ", "int ->", "int -", " -> int", "-> int", "int -> int ", "(int)", "(int) -> int",
                "((int -> int)) -> int", "int -> (int -> int)", "(int -> int)", "('0) -> int", "() -> int", "(", ")",
                "(int -> int -> int", "int -> int) -> int", "(int -> int) -> (int -> int)", "({}) -> int", "{(int -> int)}",
                "{0:(int -> int)}");
        sentence(32, "built as told: { }, [ ] or < >");
        types(true, "{}", "[]", "<>", "{0:[]}", "[0:<>]", "<0:{}>", "{0:int -> int}", "{0:(int -> int) -> int}", "{} -> []");
        types(false, "{", "}", "{]", "[}", "<}", "{>", "{}}", "{{}", "{}{}", "{ }", "{0}", "{0:}", "{0:int,}", "{,}",
                "{,0:int}",
                "{0 :int}", "{0: int}", "{0:int, 1:int}", "{0:int 1:int}", "{0int}", "{int}", "{0:int1:int}");
        sentence(32, "built as told: \"|\" and its row variable");
        types(true, "{|'0-}", "{0:int|'0-}", "{0:int,1:int|'0-}");
        types(false, "{|}", "{0:int|}", "{|int}", "{0:int,|'0-}", "{0:int|'0-|'1-}", "{|'0-,0:int}", "{|'0-|}", "{||'0-}",
                "{'0-}", "{0:int'0-}", "{|'0-}|", "|'0-", "{| '0-}");
    }

    // ---- Accepting ----

    private static void lacking() {
        sentence(33, "a row variable lacks what it is told to lack anywhere in the text");
        for (int label = 0; label < 10; label++) {
            x = new Rowan();
            int other = (label + 3) % 10;
            int term = fn(0, fn(1, x.with(label, n(1), x.record())));
            accepted(true, term, "{|'5-} -> {|'5-} -> {|'5-}");
            accepted(false, term, "{|'5-L} -> {|'5-} -> {|'5-}".replace("L", "" + label),
                    "{|'5-} -> {|'5-L} -> {|'5-}".replace("L", "" + label),
                    "{|'5-} -> {|'5-} -> {|'5-L}".replace("L", "" + label),
                    "{|'5-} -> [|'5-L] -> {|'5-}".replace("L", "" + label));
            accepted(true, term, "{|'5-L} -> {|'5-} -> {|'5-}".replace("L", "" + other),
                    "{|'5-} -> {|'5-L} -> {|'5-L}".replace("L", "" + other),
                    "{|'6-L} -> {|'7-L} -> {|'5-}".replace("L", "" + label));
        }
        sentence(33, "and the labels ahead of it");
        for (int label = 0; label < 10; label++) {
            x = new Rowan();
            int other = (label + 7) % 10;
            int term = fn(0, fn(1, x.with(label, n(1), x.record())));
            accepted(false, term, "{L:int|'5-} -> '1 -> {|'5-}".replace("L", "" + label),
                    "'1 -> {L:int|'5-} -> {|'5-}".replace("L", "" + label),
                    "<L:int|'5-> -> '1 -> {|'5-}".replace("L", "" + label));
            accepted(true, term, "{L:int|'5-} -> '1 -> {|'5-}".replace("L", "" + other),
                    "{L:int|'6-} -> '1 -> {|'5-}".replace("L", "" + label),
                    "'0 -> '1 -> {L:int|'5-}".replace("L", "" + label));
        }
    }

    private static void accepting() {
        sentence(33, "the type of the term has new variables");
        int identity = identity();
        accepted(true, identity, "'0", "'0 -> '0", "'0 -> '1", "int -> int", "'0 -> int", "int -> '0", "{} -> {}",
                "{0:int|'0-} -> {|'1-}", "('5 -> '5) -> '5 -> '5");
        accepted(false, identity, "int", "{}", "int -> {}", "{} -> []", "{} -> <>", "int -> int -> int", "{0:int} -> {}");
        sentence(33, "no type is a part of itself");
        accepted(false, identity(), "'0 -> {1:'0}", "'0 -> '0 -> '0", "'0 -> [0:'0]");
        accepted(false, fn(0, x.variant(0, v(0))), "'0 -> '0");
        accepted(true, fn(0, x.variant(0, v(0))), "'0 -> '1", "int -> [0:int|'0-]", "int -> [0:int]");
        sentence(33, "a record, a variant and an object are never the same");
        int record = x.record();
        accepted(true, record, "{}", "'0", "{|'0-}", "{|'0-0123456789}");
        accepted(false, record, "[]", "<>", "[|'0-]", "<|'0->", "int", "'0 -> '1", "{0:int}", "{0:'1|'0-}");
        classOf(0, -1);
        int object = x.make(0);
        accepted(true, object, "<>", "'0", "<|'0->");
        accepted(false, object, "[]", "{}", "[|'0-]", "{|'0-}", "int");
        int variant = x.variant(4, n(1));
        accepted(true, variant, "[4:int]", "[4:int|'0-]", "[3:{},4:int]", "[|'0-]", "[4:'0|'1-012356789]", "'0");
        accepted(false, variant, "[]", "[4:{}]", "[3:int]", "[3:int|'0-4]", "[|'0-4]", "{4:int}", "<4:int>");
        sentence(33, "whether the type is accepted, where it is written anew");
        int number = n(1);
        text("{}");
        due(false, x.accepts(number));
        text("int");
        due(true, x.accepts(number));
        due(true, x.accepts(number));
        x.write(' ');
        thrown(UNSUPPORTED, () -> x.accepts(number));
        due('-', x.error(number));
    }

    // ---- Being general ----

    /** A function of records whose row variable lacks just these labels, and has those labels ahead of it. */
    private static int rowOf(String lacks, String ahead) {
        int body = v(0);
        for (char label : lacks.toCharArray()) {
            body = x.let(1, x.with(label - '0', n(1), v(0)), body);
        }
        for (char label : ahead.toCharArray()) {
            body = x.let(1, x.sum(x.get(v(0), label - '0'), n(1)), body);
        }
        return fn(0, body);
    }

    private static boolean isWithin(String labels, String others) {
        for (char label : labels.toCharArray()) {
            if (others.indexOf(label) < 0) {
                return false;
            }
        }
        return true;
    }

    private static void general() {
        sentence(29, "only if this lacks all that it lacks");
        String[] sets = {"1", "2", "3", "12", "13", "23", "123"};
        int[] terms = new int[sets.length];
        for (int i = 0; i < sets.length; i++) {
            terms[i] = rowOf(sets[i], "");
            due("{|'0-" + sets[i] + "} -> {|'0-" + sets[i] + "}", type(terms[i]));
        }
        for (int i = 0; i < sets.length; i++) {
            for (int k = 0; k < sets.length; k++) {
                due(isWithin(sets[i], sets[k]), x.isGeneral(terms[i], terms[k]));
            }
        }
        sentence(29, "a row variable can become a row that ends with a row variable");
        int two = rowOf("1", "2");
        due("{2:int|'0-12} -> {2:int|'0-12}", type(two));
        int lacksOne = rowOf("1", "");
        int lacksTwo = rowOf("2", "");
        int lacksThree = rowOf("3", "");
        due(true, x.isGeneral(lacksOne, two));
        due(false, x.isGeneral(lacksTwo, two));
        due(false, x.isGeneral(lacksThree, two));
        due(false, x.isGeneral(two, lacksOne));
        due(true, x.isGeneral(two, two));
        sentence(29, "a row variable can become a closed row");
        int closed = fn(0, x.choice(n(0), v(0), recordOf("2")));
        int empty = fn(0, x.choice(n(0), v(0), x.record()));
        int[] rows = {rowOf("1", ""), rowOf("2", ""), rowOf("", "2"), rowOf("1", "2")};
        boolean[] isForClosed = {true, false, true, true};
        boolean[] isForEmpty = {true, true, false, false};
        for (int i = 0; i < rows.length; i++) {
            due(isForClosed[i], x.isGeneral(rows[i], closed));
            due(isForEmpty[i], x.isGeneral(rows[i], empty));
            due(false, x.isGeneral(closed, rows[i]));
            due(false, x.isGeneral(empty, rows[i]));
        }
    }

    private static void generalVariables() {
        sentence(29, "whose variables stand for themselves");
        int different = fn(0, fn(1, v(0)));
        int same = fn(0, fn(1, x.choice(n(0), v(0), v(1))));
        int number = fn(0, fn(1, x.sum(v(0), v(1))));
        int any = anything();
        int[] lessAndLess = {any, different, same, number};
        for (int i = 0; i < 4; i++) {
            for (int k = 0; k < 4; k++) {
                due(i <= k, x.isGeneral(lessAndLess[i], lessAndLess[k]));
            }
        }
        sentence(29, "the variables of both are others, even for the same term");
        int swapped = fn(0, fn(1, v(1)));
        int kept = fn(0, fn(1, v(0)));
        due(false, x.isGeneral(swapped, kept));
        due(false, x.isGeneral(kept, swapped));
        int itself = fn(0, x.variant(0, v(0)));
        due(true, x.isGeneral(itself, itself));
        sentence(29, "types without variables");
        int[] plain = {n(1), x.record(), recordOf("1"), recordOf("2"), x.match(x.variant(0, n(1)),
                x.otherCases(0, n(1)))};
        for (int i = 0; i < plain.length; i++) {
            for (int k = 0; k < plain.length; k++) {
                due(type(plain[i]).equals(type(plain[k])), x.isGeneral(plain[i], plain[k]));
            }
        }
    }

    public static void main(String[] arguments) {
        lengths();
        numbers();
        labels();
        kinds();
        readAgain();
        lacking();
        accepting();
        general();
        generalVariables();
        finish("boundaries of texts");
    }
}
