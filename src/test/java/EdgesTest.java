import java.util.NoSuchElementException;

/**
 * Promises 2 to 16 and 18 to 36: each call with its arguments at their edges and beyond them, in the empty
 * and the full state and one ahead of it: what is in is answered, what is out is refused, by the exception
 * that is documented first where several apply, and what is refused changes no answer.
 */
public final class EdgesTest {
    private static final Check CHECK = new Check("EdgesTest");
    private static final int[] LANGUAGES = {Integer.MIN_VALUE, -1, 0, 1, 2, Integer.MAX_VALUE};
    private static final char[] CATEGORIES = {'@', 'A', 'Z', '['};
    private static final char[] LETTERS = {'`', 'a', 'z', '{', '-'};
    private static final int[] MEANINGS = {-1, 0, 59, 60};
    private static final int[] FEATURES = {-1, 0, 63, 64};
    private static final int[] ROLES = {-1, 0, 7, 8};
    private static final int[] PLACES = {Integer.MIN_VALUE, -1, 0, 1, 5, 6, 7, Integer.MAX_VALUE};
    // What told() tells of each kind, for language 0 and 1.
    private static final int STEMS = 2;
    private static final int[] ENDINGS = {3, 5};
    private static final int RULES = 2;
    private static final int[] TRANSFERS = {2, 0};

    public static void main(String[] args) {
        type();
        clear();
        addStem();
        addEnding();
        addJoint();
        addRule();
        setRule();
        addTransfer();
        turnRole();
        write();
        begin();
        addWord();
        insertWord();
        setWord();
        removeWord();
        stretches();
        charAt();
        translate();
        writeTransferred();
        reason();
        back();
        shares();
        CHECK.end();
    }

    // ---- states

    /** A whole translation stands, and a form is written. */
    private static PhraseFerry told() {
        PhraseFerry x = TranslateTest.nounsAndVerbs();
        Check.say(x, "cats see cat");
        x.translate();
        x.write(0, 0, 1);
        return x;
    }

    private static PhraseFerry typed(int letters) {
        PhraseFerry x = told();
        Check.type(x, "q".repeat(letters));
        return x;
    }

    private static PhraseFerry withStems(int[] counts, int letters) {
        PhraseFerry x = told();
        for (int language = 0; language < 2; language++) {
            for (int i = STEMS; i < counts[language]; i++) {
                Check.stem(x, language, "x", 'X', i, 0);
            }
        }
        Check.type(x, "q".repeat(letters));
        return x;
    }

    private static PhraseFerry withEndings(int[] counts, int letters) {
        PhraseFerry x = told();
        for (int language = 0; language < 2; language++) {
            for (int i = ENDINGS[language]; i < counts[language]; i++) {
                x.addEnding(language, 'X', i);
            }
        }
        Check.type(x, "q".repeat(letters));
        return x;
    }

    private static PhraseFerry withJoints(int[] counts) {
        PhraseFerry x = typed(1);
        for (int language = 0; language < 2; language++) {
            for (int i = 0; i < counts[language]; i++) {
                x.addJoint(language, 'x', 'x', 'x', 'x');
            }
        }
        return x;
    }

    private static PhraseFerry withRules(int[] counts) {
        PhraseFerry x = typed(1);
        for (int language = 0; language < 2; language++) {
            for (int i = RULES; i < counts[language]; i++) {
                x.addRule(language, 'X', 'X', 'X', true, i % 8);
            }
        }
        return x;
    }

    private static PhraseFerry withTransfers(int[] counts) {
        PhraseFerry x = typed(1);
        for (int language = 0; language < 2; language++) {
            for (int i = TRANSFERS[language]; i < counts[language]; i++) {
                x.addTransfer(language, 50, i, 50);
            }
        }
        return x;
    }

    /** Stretches of words "a": each has an item A of the weight of its length less one, and above it a Z. */
    private static PhraseFerry withWords(int count, int letters) {
        PhraseFerry x = new PhraseFerry();
        x.addEnding(0, 'A', 63);
        Check.stem(x, 0, "a", 'A', 1, 63);
        Check.rule(x, 0, "A=A*+A", 1, 7, 3, 1);
        Check.rule(x, 0, "Z=A", 0, 0, 3, 9);
        for (int i = 0; i < count; i++) {
            Check.say(x, "a");
        }
        if (count > 0) {
            x.translate();
        }
        Check.type(x, "q".repeat(letters));
        return x;
    }

    private static boolean isIn(int number, int least, int most) {
        return number >= least && number <= most;
    }

    private static boolean hasRoom(int language, int[] counts, int most) {
        return isIn(language, 0, 1) && counts[language] < most;
    }

    // ---- letters, words, rules

    private static void type() {
        for (int letters : new int[] {0, 1, 39, 40}) {
            Grid grid = new Grid(CHECK, () -> typed(letters));
            for (char letter : LETTERS) {
                grid.call("2: type " + letter + " behind " + letters,
                        Grid.due(true, isIn(letter, 'a', 'z'), letters < 40),
                        letters + 1 + " " + (letters + 1), x -> x.type(letter) + " " + x.clear());
            }
            grid.end("2: type behind " + letters);
        }
    }

    private static void clear() {
        for (int letters : new int[] {0, 1, 40}) {
            PhraseFerry x = typed(letters);
            CHECK.is("3: of " + letters, x.clear(), letters);
            CHECK.is("3: then", x.clear(), 0);
            CHECK.is("3: all else", Probe.answers(x), Probe.answers(told()));
        }
    }

    private static void addStem() {
        for (int[] counts : new int[][] {{2, 2}, {29, 30}, {30, 29}}) {
            for (int letters : new int[] {0, 1, 8, 9, 40}) {
                Grid grid = new Grid(CHECK, () -> withStems(counts, letters));
                for (int language : LANGUAGES) {
                    for (char category : CATEGORIES) {
                        addStem(grid, language, category, letters, counts);
                    }
                }
                grid.end("4: addStem of " + letters + " letters");
            }
        }
    }

    private static void addStem(Grid grid, int language, char category, int letters, int[] counts) {
        for (int meaning : MEANINGS) {
            for (int features : FEATURES) {
                boolean isRight = isIn(category, 'A', 'Z') && isIn(meaning, 0, 59) && isIn(features, 0, 63)
                        && isIn(letters, 1, 8);
                grid.call("4: addStem " + language + " " + category + " " + meaning + " " + features,
                        Grid.due(isIn(language, 0, 1), isRight, hasRoom(language, counts, 30)),
                        (language == 1 ? counts[1] : counts[0]) + " 0",
                        x -> x.addStem(language, category, meaning, features, true) + " " + x.clear());
            }
        }
    }

    private static void addEnding() {
        for (int[] counts : new int[][] {{3, 5}, {19, 20}, {20, 19}}) {
            for (int letters : new int[] {0, 1, 4, 5, 40}) {
                Grid grid = new Grid(CHECK, () -> withEndings(counts, letters));
                for (int language : LANGUAGES) {
                    for (char category : CATEGORIES) {
                        for (int features : FEATURES) {
                            boolean isRight = isIn(category, 'A', 'Z') && isIn(features, 0, 63) && letters <= 4;
                            grid.call("5: addEnding " + language + " " + category + " " + features,
                                    Grid.due(isIn(language, 0, 1), isRight, hasRoom(language, counts, 20)),
                                    (language == 1 ? counts[1] : counts[0]) + " 0",
                                    x -> x.addEnding(language, category, features) + " " + x.clear());
                        }
                    }
                }
                grid.end("5: addEnding of " + letters + " letters");
            }
        }
    }

    private static void addJoint() {
        for (int[] counts : new int[][] {{0, 0}, {9, 10}, {10, 9}}) {
            Grid grid = new Grid(CHECK, () -> withJoints(counts));
            for (int language : LANGUAGES) {
                for (char last : LETTERS) {
                    for (char first : LETTERS) {
                        addJoint(grid, language, last, first, counts);
                    }
                }
            }
            grid.end("6: addJoint");
        }
    }

    private static void addJoint(Grid grid, int language, char last, char first, int[] counts) {
        for (char newLast : LETTERS) {
            for (char newFirst : LETTERS) {
                boolean isRight = isIn(last, 'a', 'z') && isIn(first, 'a', 'z')
                        && (newLast == '-' || isIn(newLast, 'a', 'z'))
                        && (newFirst == '-' || isIn(newFirst, 'a', 'z'));
                grid.call("6: addJoint " + language + " " + last + first + newLast + newFirst,
                        Grid.due(isIn(language, 0, 1), isRight, hasRoom(language, counts, 10)),
                        (language == 1 ? counts[1] : counts[0]) + 1 + " 1",
                        x -> x.addJoint(language, last, first, newLast, newFirst) + " " + x.clear());
            }
        }
    }

    private static void addRule() {
        for (int[] counts : new int[][] {{2, 2}, {23, 24}, {24, 23}}) {
            Grid grid = new Grid(CHECK, () -> withRules(counts));
            for (int language : LANGUAGES) {
                for (char category : new char[] {'@', 'A', 'B', 'Z', '[', '-'}) {
                    for (char left : new char[] {'@', 'A', 'Y', 'Z', '[', '-'}) {
                        addRule(grid, language, category, left, counts);
                    }
                }
            }
            grid.end("7: addRule");
        }
    }

    private static void addRule(Grid grid, int language, char category, char left, int[] counts) {
        for (char right : new char[] {'@', 'A', 'Z', '[', '-'}) {
            for (int role : ROLES) {
                boolean isRight = isIn(category, 'A', 'Z') && isIn(left, 'A', 'Z')
                        && (right == '-' ? left < category : isIn(right, 'A', 'Z') && isIn(role, 0, 7));
                grid.call("7: addRule " + language + " " + category + left + right + " " + role,
                        Grid.due(isIn(language, 0, 1), isRight, hasRoom(language, counts, 24)),
                        (language == 1 ? counts[1] : counts[0]) + " 1",
                        x -> x.addRule(language, category, left, right, true, role) + " " + x.clear());
            }
        }
    }

    private static void setRule() {
        for (int[] counts : new int[][] {{3, 2}, {24, 23}}) {
            Grid grid = new Grid(CHECK, () -> withRuleOfOne(counts));
            for (int language : LANGUAGES) {
                for (int rule : new int[] {Integer.MIN_VALUE, -1, 0, 1, 2, 22, 23, 24, Integer.MAX_VALUE}) {
                    setRule(grid, language, rule, counts);
                }
            }
            grid.end("8: setRule");
        }
        Grid empty = new Grid(CHECK, PhraseFerry::new);
        empty.call("8: setRule without rules", Grid.due(false, true, true), 0, x -> x.setRule(0, 0, 0, 0, 0));
        empty.end("8: setRule without rules");
    }

    /** Rule 1 of language 1 has the weight 5, and the last one of language 0 is of one. */
    private static PhraseFerry withRuleOfOne(int[] counts) {
        PhraseFerry x = withRules(new int[] {counts[0] - 1, counts[1]});
        Check.rule(x, 0, "S=N", 0);
        x.setRule(1, 1, 0, 1, 5);
        return x;
    }

    private static void setRule(Grid grid, int language, int rule, int[] counts) {
        boolean isThere = isIn(language, 0, 1) && isIn(rule, 0, counts[language] - 1);
        boolean isOfOne = language == 0 && rule == counts[0] - 1;
        for (int fit : new int[] {-1, 0, 7, 8}) {
            for (int govern : new int[] {-1, 0, 3, 4}) {
                for (int weight : new int[] {-1, 0, 9, 10}) {
                    boolean isRight = (isOfOne || isIn(fit, 0, 7)) && isIn(govern, 0, 3) && isIn(weight, 0, 9);
                    grid.call("8: setRule " + language + " " + rule + " " + fit + " " + govern + " " + weight,
                            Grid.due(isThere, isRight, true),
                            (language == 1 && rule == 1 ? 5 : 0) + " " + weight,
                            x -> x.setRule(language, rule, fit, govern, weight) + " "
                                    + x.setRule(language, rule, 0, 0, 0));
                }
            }
        }
    }

    private static void addTransfer() {
        for (int[] counts : new int[][] {{2, 0}, {39, 40}, {40, 39}}) {
            Grid grid = new Grid(CHECK, () -> withTransfers(counts));
            for (int language : LANGUAGES) {
                for (int meaning : MEANINGS) {
                    for (int context : new int[] {Integer.MIN_VALUE, -2, -1, 0, 59, 60}) {
                        for (int target : MEANINGS) {
                            boolean isRight = isIn(meaning, 0, 59) && isIn(context, -1, 59) && isIn(target, 0, 59);
                            grid.call("9: addTransfer " + language + " " + meaning + " " + context + " " + target,
                                    Grid.due(isIn(language, 0, 1), isRight, hasRoom(language, counts, 40)),
                                    (language == 1 ? counts[1] : counts[0]) + 1 + " 1",
                                    x -> x.addTransfer(language, meaning, context, target) + " " + x.clear());
                        }
                    }
                }
            }
            grid.end("9: addTransfer");
        }
    }

    private static void turnRole() {
        Grid grid = new Grid(CHECK, () -> typed(1));
        for (int language : LANGUAGES) {
            for (int role : ROLES) {
                for (int target : ROLES) {
                    grid.call("10: turnRole " + language + " " + role + " " + target,
                            Grid.due(isIn(language, 0, 1), isIn(role, 0, 7) && isIn(target, 0, 7), true),
                            role + " " + target,
                            x -> x.turnRole(language, role, target) + " " + x.turnRole(language, role, 0));
                }
            }
        }
        grid.end("10: turnRole");
    }

    private static void write() {
        int[][] states = {{2, 2, 3, 5}, {30, 29, 3, 5}, {2, 2, 19, 20}};
        for (int[] state : states) {
            boolean hasMoreStems = state[0] > STEMS;
            Grid grid = new Grid(CHECK, () -> hasMoreStems ? withStems(new int[] {state[0], state[1]}, 1)
                    : withEndings(new int[] {state[2], state[3]}, 1));
            for (int language : LANGUAGES) {
                for (int stem : new int[] {Integer.MIN_VALUE, -1, 0, 1, 2, 28, 29, 30, Integer.MAX_VALUE}) {
                    for (int ending : new int[] {Integer.MIN_VALUE, -1, 0, 2, 3, 18, 19, 20, Integer.MAX_VALUE}) {
                        write(grid, language, stem, ending, state);
                    }
                }
            }
            grid.end("11: write");
        }
    }

    /** Stem 0 is a noun; so are the endings 0 and 1 of language 0, and 0 to 3 of language 1. */
    private static void write(Grid grid, int language, int stem, int ending, int[] state) {
        boolean isThere = isIn(language, 0, 1) && isIn(stem, 0, state[language] - 1)
                && isIn(ending, 0, state[2 + language] - 1);
        boolean isNoun = stem == 0 && ending < (language == 0 ? 2 : 4);
        boolean isVerb = stem == 1 && ending == (language == 0 ? 2 : 4);
        String text = language == 0 ? "cat" : ending == 0 ? "kat" : ending == 2 ? "kate" : "katen";
        grid.call("11: write " + language + " " + stem + " " + ending,
                !isThere ? IndexOutOfBoundsException.class : isNoun || isVerb ? null : NoSuchElementException.class,
                isVerb ? "see" : text, x -> Check.form(x, language, stem, ending));
    }

    // ---- sentences

    private static void begin() {
        for (int words : new int[] {0, 1, 6}) {
            Grid grid = new Grid(CHECK, () -> withWords(words, 1));
            for (int language : LANGUAGES) {
                grid.call("12: begin " + language + " behind " + words, Grid.due(isIn(language, 0, 1), true, true),
                        words + " 0 1", x -> x.begin(language) + " " + x.words() + " " + x.clear());
            }
            grid.end("12: begin behind " + words);
        }
    }

    private static void addWord() {
        for (int words : new int[] {0, 1, 5, 6}) {
            for (int letters : new int[] {0, 1, 40}) {
                Grid grid = new Grid(CHECK, () -> withWords(words, letters));
                grid.call("13: addWord of " + letters + " behind " + words, Grid.due(true, letters > 0, words < 6),
                        words + 1 + " " + (words + 1) + " 0", x -> x.addWord() + " " + x.words() + " " + x.clear());
                grid.end("13: addWord of " + letters + " behind " + words);
            }
        }
    }

    private static void insertWord() {
        for (int words : new int[] {0, 1, 5, 6}) {
            for (int letters : new int[] {0, 1, 40}) {
                Grid grid = new Grid(CHECK, () -> withWords(words, letters));
                for (int index : PLACES) {
                    grid.call("14: insertWord " + index + " of " + letters + " to " + words,
                            Grid.due(isIn(index, 0, words), letters > 0, words < 6),
                            words + 1 + " " + (words + 1) + " 0 0",
                            x -> x.insertWord(index) + " " + x.words() + " " + x.clear() + " " + x.analyses(index));
                }
                grid.end("14: insertWord of " + letters + " to " + words);
            }
        }
    }

    private static void setWord() {
        for (int words : new int[] {0, 1, 6}) {
            for (int letters : new int[] {0, 1, 40}) {
                Grid grid = new Grid(CHECK, () -> withWords(words, letters));
                for (int index : PLACES) {
                    grid.call("15: setWord " + index + " of " + letters + " in " + words,
                            Grid.due(isIn(index, 0, words - 1), letters > 0, true), "0 " + words + " 0",
                            x -> x.setWord(index) + " " + x.words() + " " + x.clear());
                }
                grid.end("15: setWord of " + letters + " in " + words);
            }
        }
    }

    private static void removeWord() {
        for (int words : new int[] {0, 1, 6}) {
            Grid grid = new Grid(CHECK, () -> withWords(words, 1));
            for (int index : PLACES) {
                grid.call("16: removeWord " + index + " of " + words, Grid.due(isIn(index, 0, words - 1), true, true),
                        words - 1 + " " + (words - 1) + " 1",
                        x -> x.removeWord(index) + " " + x.words() + " " + x.clear());
                grid.call("18: analyses " + index + " of " + words, Grid.due(isIn(index, 0, words - 1), true, true),
                        1, x -> x.analyses(index));
            }
            grid.end("16: removeWord of " + words);
        }
    }

    private static void stretches() {
        for (int words : new int[] {0, 1, 6}) {
            Grid grid = new Grid(CHECK, () -> withWords(words, 1));
            for (int from : PLACES) {
                for (int to : PLACES) {
                    boolean isThere = 0 <= from && from < to && to <= words;
                    grid.call("19: items " + from + " " + to + " of " + words, Grid.due(isThere, true, true),
                            2, x -> x.items(from, to));
                    for (char category : new char[] {'@', 'A', 'S', 'Z', '['}) {
                        stretch(grid, from, to, category, isThere);
                    }
                }
            }
            grid.end("23: stretches of " + words);
        }
    }

    private static void stretch(Grid grid, int from, int to, char category, boolean isThere) {
        String call = " " + from + " " + to + " " + category;
        boolean isCategory = isIn(category, 'A', 'Z');
        int length = isThere ? to - from : 1;
        int[] trees = {1, 1, 2, 5, 14, 42};
        Class<? extends RuntimeException> due = Grid.due(isThere, isCategory, true);
        grid.call("20: readings" + call, due, category == 'S' ? 0 : trees[length - 1],
                x -> x.readings(from, to, category));
        Class<? extends RuntimeException> dueOfItem =
                due == null && category == 'S' ? NoSuchElementException.class : due;
        grid.call("21: weight" + call, dueOfItem, category == 'Z' ? length + 8 : length - 1,
                x -> x.weight(from, to, category));
        grid.call("22: features" + call, dueOfItem, 63, x -> x.features(from, to, category));
        grid.call("23: writeMeaning" + call, dueOfItem, "1" + "(1:1".repeat(length - 1) + ")".repeat(length - 1),
                x -> Check.meaning(x, from, to, category));
    }

    private static void charAt() {
        for (String text : new String[] {"", "q", "abc", "q".repeat(40)}) {
            Grid grid = new Grid(CHECK, () -> copied(text));
            int length = text.isEmpty() ? 0 : text.length() + 1;
            for (int index : new int[] {Integer.MIN_VALUE, -1, 0, 1, 2, 3, 4, 39, 40, 41, Integer.MAX_VALUE}) {
                boolean isThere = isIn(index, 0, length - 1);
                grid.call("24: charAt " + index + " of " + length, Grid.due(isThere, true, true),
                        isThere ? ("*" + text).charAt(index) : "", x -> x.charAt(index));
            }
            grid.end("24: charAt of " + length);
        }
    }

    /** A word that is unknown is translated, if there is one. */
    private static PhraseFerry copied(String word) {
        PhraseFerry x = new PhraseFerry();
        if (!word.isEmpty()) {
            Check.say(x, word);
            x.translate();
        }
        return x;
    }

    // ---- translating

    private static void translate() {
        for (int words : new int[] {0, 1, 6}) {
            Grid grid = new Grid(CHECK, () -> withWords(words, 1));
            grid.call("25: translate " + words, Grid.due(true, true, words > 0),
                    "p" + " *a".repeat(words) + " " + words + " " + words + " 2",
                    x -> Check.translated(x) + " " + x.pieces() + " " + x.copied() + " " + x.translations());
            grid.end("25: translate " + words);
        }
        Grid begun = new Grid(CHECK, EdgesTest::begunBehindWhole);
        begun.call("25: translate behind a whole", IllegalStateException.class, "", PhraseFerry::translate);
        begun.end("25: translate behind a whole");
    }

    private static PhraseFerry begunBehindWhole() {
        PhraseFerry x = told();
        x.begin(1);
        return x;
    }

    private static void writeTransferred() {
        String[][] rows = {{"cat see cat", "22(0:21.1,1:21.1)"}, {"", null}, {"cat", null}, {"cat see", null},
            {"cat see dog", null}, {"dog see cat", null}, {"see", null}};
        for (String[] row : rows) {
            Grid grid = new Grid(CHECK, () -> withDog(row[0]));
            grid.call("26: writeTransferred of " + row[0], row[1] == null ? NoSuchElementException.class : null,
                    row[1] == null ? "" : row[1].length() + " " + row[1],
                    x -> x.writeTransferred() + " " + Check.written(x));
            grid.end("26: writeTransferred of " + row[0]);
        }
    }

    /** A dog has no transfer. */
    private static PhraseFerry withDog(String words) {
        PhraseFerry x = told();
        Check.stem(x, 0, "dog", 'N', 3, 0);
        x.begin(0);
        if (!words.isEmpty()) {
            Check.say(x, words);
        }
        return x;
    }

    private static void reason() {
        String[] chains = {"", "g", "t", "nf", "nfffff"};
        for (String chain : chains) {
            Grid grid = new Grid(CHECK, () -> chained(chain));
            int count = chain.length();
            for (int index : PLACES) {
                boolean isThere = isIn(index, 0, count - 1);
                char kind = isThere ? chain.charAt(count - 1 - index) : ' ';
                grid.call("30: reason " + index + " of " + count, Grid.due(isThere, true, true), kind,
                        x -> x.reason(index));
                grid.call("31: reasonMeaning " + index + " of " + count, Grid.due(isThere, true, true),
                        kind == 'g' ? -1 : kind == 't' ? 0 : kind == 'n' ? 59 : 58, x -> x.reasonMeaning(index));
            }
            grid.end("30: reason of " + count);
            CHECK.is("29: reasons of " + chain, chained(chain).reasons(), count);
        }
    }

    /** Each of the words, but the last one, has the next one as its part; the last one has no form. */
    private static PhraseFerry chained(String chain) {
        PhraseFerry x = new PhraseFerry();
        x.addEnding(0, 'S', 0);
        x.addEnding(1, 'S', 0);
        Check.stem(x, 0, "f", 'S', 0, 0);
        Check.stem(x, 0, "n", 'S', 1, 0);
        Check.stem(x, 1, "f", 'S', 58, 0);
        Check.rule(x, 0, "S=S*+S", 7);
        x.addTransfer(0, 1, -1, 59);
        if (!chain.equals("t")) {
            x.addTransfer(0, 0, -1, 58);
        }
        for (int i = chain.length() - 1; i >= 0; i--) {
            Check.say(x, chain.replace('t', 'f').substring(i, i + 1));
        }
        if (!chain.isEmpty()) {
            x.translate();
        }
        return x;
    }

    private static void back() {
        Grid none = new Grid(CHECK, PhraseFerry::new);
        none.call("32: back without a translation", IllegalStateException.class, "", PhraseFerry::back);
        none.end("32: back without a translation");
        Grid inPieces = new Grid(CHECK, () -> withWords(1, 1));
        inPieces.call("32: back of pieces", IllegalStateException.class, "", PhraseFerry::back);
        inPieces.end("32: back of pieces");
        Grid onePiece = new Grid(CHECK, EdgesTest::onePieceBehindWhole);
        onePiece.call("32: back of one piece", IllegalStateException.class, "", PhraseFerry::back);
        onePiece.end("32: back of one piece");
        Grid whole = new Grid(CHECK, EdgesTest::told);
        whole.call("32: back of a whole", null, "e cats", x -> x.back() + " " + Check.written(x));
        whole.end("32: back of a whole");
        Grid begun = new Grid(CHECK, EdgesTest::begunBehindWhole);
        begun.call("32: back behind begin", null, 'e', PhraseFerry::back);
        begun.end("32: back behind begin");
    }

    private static PhraseFerry onePieceBehindWhole() {
        PhraseFerry x = told();
        x.begin(0);
        Check.say(x, "cat");
        x.translate();
        return x;
    }

    // ---- figures

    private static void shares() {
        Grid none = new Grid(CHECK, () -> withWords(0, 1));
        none.call("35: wholeShare of none", ArithmeticException.class, "", PhraseFerry::wholeShare);
        none.call("36: meanPieces of none", ArithmeticException.class, "", PhraseFerry::meanPieces);
        none.end("36: meanPieces of none");
        Grid noWhole = new Grid(CHECK, () -> withWords(6, 1));
        noWhole.call("35: wholeShare of six pieces", null, 0f, PhraseFerry::wholeShare);
        noWhole.call("36: meanPieces of six pieces", null, 6.0, PhraseFerry::meanPieces);
        Grid whole = new Grid(CHECK, EdgesTest::told);
        whole.call("35: wholeShare of a whole", null, 1f, PhraseFerry::wholeShare);
        whole.call("36: meanPieces of a whole", null, 1.0, PhraseFerry::meanPieces);
    }
}
