import java.util.Map;
import java.util.Random;
import java.util.TreeMap;

/** One run of at most 512 calls, each made on a PhraseFerry and on a PlainFerry, which must agree. */
final class Duel {
    /** How a run is coloured: few letters, categories and roles make words and sentences meet. */
    record Colour(String letters, String categories, int meanings, int roles, double marked, double ones,
            int stems, int endings, int rules, int longestStem, double weighted, double missing) { }

    static final int CALLS = 512;

    final PhraseFerry ferry = new PhraseFerry();
    final PlainFerry plain = new PlainFerry();
    final Random random;
    final Colour colour;
    final StringBuilder history = new StringBuilder();
    final Map<String, Integer> seen = new TreeMap<>();
    int calls;
    String fault;

    Duel(long seed) {
        random = new Random(seed);
        colour = chooseColour();
    }

    private Colour chooseColour() {
        String[] letters = {"a", "ab", "abc", "abcdefghijklmnopqrstuvwxyz"};
        String[] categories = {"S", "AS", "NSV", "ANSVZ", "BNSV"};
        return new Colour(letters[random.nextInt(4)], categories[random.nextInt(5)],
                1 + random.nextInt(8), 1 + random.nextInt(4), random.nextInt(3) * 0.25,
                random.nextInt(3) * 0.2, 2 + random.nextInt(9), 1 + random.nextInt(5), 1 + random.nextInt(9),
                1 + random.nextInt(random.nextInt(4) == 0 ? 8 : 2), random.nextInt(3) * 0.3,
                random.nextInt(3) * 0.1);
    }

    /** Runs until the calls are used up or the answers differ; true if they never did. */
    boolean run() {
        for (int language = 0; language < 2; language++) {
            tellLanguage(language);
        }
        while (fault == null && calls < CALLS) {
            step();
        }
        return fault == null;
    }

    private void tellLanguage(int language) {
        for (int i = 0; i < colour.endings; i++) {
            ending(language);
        }
        for (int i = 0; i < colour.stems; i++) {
            stem(language);
        }
        for (int i = 0; i < colour.rules; i++) {
            rule(language);
        }
        for (int meaning = 0; meaning < colour.meanings; meaning++) {
            if (random.nextDouble() >= colour.missing) {
                transfer(language, meaning);
            }
        }
    }

    private void step() {
        int kind = random.nextInt(100);
        if (kind < 35) {
            edit();
        } else if (kind < 60) {
            translate();
        } else if (kind < 85) {
            ask();
        } else if (kind < 95) {
            change();
        } else {
            wrong();
        }
    }

    // ---- what is told

    private int language() {
        return random.nextInt(2);
    }

    private char category() {
        return colour.categories.charAt(random.nextInt(colour.categories.length()));
    }

    private int marks() {
        return random.nextDouble() < colour.marked ? random.nextInt(64) : 0;
    }

    private void typeAll(String letters) {
        if (!plain.buffer.isEmpty()) {
            go("clear()", ferry::clear, plain::clear);
        }
        for (char letter : letters.toCharArray()) {
            go("type('" + letter + "')", () -> ferry.type(letter), () -> plain.type(letter));
        }
    }

    private String letters(int count) {
        StringBuilder out = new StringBuilder();
        for (int i = 0; i < count; i++) {
            out.append(colour.letters.charAt(random.nextInt(colour.letters.length())));
        }
        return out.toString();
    }

    private void stem(int language) {
        typeAll(letters(1 + random.nextInt(colour.longestStem)));
        char category = category();
        int meaning = random.nextInt(colour.meanings);
        int marks = marks();
        boolean isCounted = random.nextInt(3) == 0;
        go("addStem(" + language + ", '" + category + "', " + meaning + ", " + marks + ", " + isCounted + ")",
                () -> ferry.addStem(language, category, meaning, marks, isCounted),
                () -> plain.addStem(language, category, meaning, marks, isCounted));
    }

    private void ending(int language) {
        typeAll(letters(random.nextInt(3) == 0 ? random.nextInt(5) : random.nextInt(2)));
        char category = category();
        int marks = marks();
        go("addEnding(" + language + ", '" + category + "', " + marks + ")",
                () -> ferry.addEnding(language, category, marks), () -> plain.addEnding(language, category, marks));
    }

    private void joint(int language) {
        String all = letters(4);
        char newLast = random.nextInt(3) == 0 ? '-' : all.charAt(2);
        char newFirst = random.nextInt(3) == 0 ? '-' : all.charAt(3);
        go("addJoint(" + language + ", " + all + newLast + newFirst + ")",
                () -> ferry.addJoint(language, all.charAt(0), all.charAt(1), newLast, newFirst),
                () -> plain.addJoint(language, all.charAt(0), all.charAt(1), newLast, newFirst));
    }

    private void rule(int language) {
        char one = category();
        char other = category();
        boolean isOfOne = random.nextDouble() < colour.ones && one != other;
        char made = isOfOne ? (char) Math.max(one, other) : category();
        char left = isOfOne ? (char) Math.min(one, other) : one;
        char right = isOfOne ? '-' : other;
        boolean isLeftHead = random.nextBoolean();
        int role = isOfOne && random.nextInt(4) == 0 ? random.nextInt() : random.nextInt(colour.roles);
        go("addRule(" + language + ", '" + made + "', '" + left + "', '" + right + "', " + isLeftHead + ", " + role
                + ")", () -> ferry.addRule(language, made, left, right, isLeftHead, role),
                () -> plain.addRule(language, made, left, right, isLeftHead, role));
        if (random.nextDouble() < colour.weighted) {
            setRule(language, plain.languages[language].rules.size() - 1);
        }
    }

    private void setRule(int language, int rule) {
        boolean isOfOne = rule < plain.languages[language].rules.size()
                && plain.languages[language].rules.get(rule).right == '-';
        int fit = isOfOne && random.nextInt(2) == 0 ? random.nextInt() : random.nextInt(8);
        int govern = random.nextInt(2) * random.nextInt(4);
        int weight = random.nextInt(2) == 0 ? random.nextInt(3) : random.nextInt(10);
        go("setRule(" + language + ", " + rule + ", " + fit + ", " + govern + ", " + weight + ")",
                () -> ferry.setRule(language, rule, fit, govern, weight),
                () -> plain.setRule(language, rule, fit, govern, weight));
    }

    private void transfer(int language, int meaning) {
        int context = random.nextInt(3) == 0 ? random.nextInt(colour.meanings) : -1;
        int target = random.nextInt(colour.meanings);
        go("addTransfer(" + language + ", " + meaning + ", " + context + ", " + target + ")",
                () -> ferry.addTransfer(language, meaning, context, target),
                () -> plain.addTransfer(language, meaning, context, target));
    }

    private void change() {
        int language = language();
        int rules = plain.languages[language].rules.size();
        switch (random.nextInt(7)) {
            case 0 -> stem(language);
            case 1 -> ending(language);
            case 2 -> joint(language);
            case 3 -> rule(language);
            case 4 -> setRule(language, random.nextInt(rules + 1));
            case 5 -> transfer(language, random.nextInt(colour.meanings));
            default -> {
                int role = random.nextInt(8);
                int target = random.nextInt(colour.roles);
                go("turnRole(" + language + ", " + role + ", " + target + ")",
                        () -> ferry.turnRole(language, role, target), () -> plain.turnRole(language, role, target));
            }
        }
    }

    // ---- sentences

    private String form(int language) {
        PlainFerry.Language words = plain.languages[language];
        for (int i = 0; i < 10 && !words.stems.isEmpty() && !words.endings.isEmpty(); i++) {
            String form = PlainFerry.form(words, words.stems.get(random.nextInt(words.stems.size())),
                    words.endings.get(random.nextInt(words.endings.size())));
            if (form != null) {
                return form;
            }
        }
        return letters(1 + random.nextInt(3));
    }

    private String word() {
        int kind = random.nextInt(40);
        return kind == 0 ? letters(1 + random.nextInt(40)) : kind < 3 ? letters(1 + random.nextInt(4))
                : form(plain.language);
    }

    private void edit() {
        int count = plain.words();
        int index = random.nextInt(count + 1);
        switch (random.nextInt(8)) {
            case 0 -> {
                typeAll(word());
                go("insertWord(" + index + ")", () -> ferry.insertWord(index), () -> plain.insertWord(index));
            }
            case 1, 2 -> {
                typeAll(word());
                go("setWord(" + index + ")", () -> ferry.setWord(index), () -> plain.setWord(index));
            }
            case 3 -> go("removeWord(" + index + ")", () -> ferry.removeWord(index), () -> plain.removeWord(index));
            case 4 -> {
                if (random.nextInt(5) == 0) {
                    int language = language();
                    go("begin(" + language + ")", () -> ferry.begin(language), () -> plain.begin(language));
                }
            }
            default -> {
                typeAll(word());
                go("addWord()", ferry::addWord, plain::addWord);
            }
        }
        go("found()", ferry::found, plain::found);
    }

    private void ask() {
        int from = random.nextInt(Math.max(1, plain.words()));
        int to = random.nextInt(3) == 0 ? plain.words() : Math.min(plain.words(), from + 1 + random.nextInt(4));
        char category = category();
        String args = "(" + from + ", " + to + ", '" + category + "')";
        switch (random.nextInt(10)) {
            case 0 -> go("analyses(" + from + ")", () -> ferry.analyses(from), () -> plain.analyses(from));
            case 1, 2 -> go("items(" + from + ", " + to + ")", () -> ferry.items(from, to), () -> plain.items(from, to));
            case 3 -> go("readings" + args,
                    () -> ferry.readings(from, to, category), () -> plain.readings(from, to, category));
            case 4 -> go("weight" + args, () -> ferry.weight(from, to, category), () -> plain.weight(from, to, category));
            case 5 -> go("features" + args,
                    () -> ferry.features(from, to, category), () -> plain.features(from, to, category));
            case 6, 7 -> {
                go("writeMeaning" + args,
                        () -> ferry.writeMeaning(from, to, category), () -> plain.writeMeaning(from, to, category));
                compareWritten();
            }
            case 8 -> go("isSound()", ferry::isSound, plain::isSound);
            default -> {
                int language = language();
                int stem = random.nextInt(plain.languages[language].stems.size() + 1);
                int ending = random.nextInt(plain.languages[language].endings.size() + 1);
                go("write(" + language + ", " + stem + ", " + ending + ")",
                        () -> ferry.write(language, stem, ending), () -> plain.write(language, stem, ending));
                compareWritten();
            }
        }
    }

    private void translate() {
        go("translate()", ferry::translate, plain::translate);
        compareWritten();
        go("reasons()", ferry::reasons, plain::reasons);
        for (int i = 0; i < plain.reasons(); i++) {
            int index = i;
            note(plain.reason(i) + (i > 0 ? " inner" : ""));
            go("reason(" + i + ")", () -> ferry.reason(index), () -> plain.reason(index));
            go("reasonMeaning(" + i + ")", () -> ferry.reasonMeaning(index), () -> plain.reasonMeaning(index));
        }
        note("words " + plain.words() + (plain.isWhole ? " w" : " p"));
        go("pieces()", ferry::pieces, plain::pieces);
        go("copied()", ferry::copied, plain::copied);
        go("writeTransferred()", ferry::writeTransferred, plain::writeTransferred);
        compareWritten();
        go("back()", ferry::back, plain::back);
        go("wholeShare()", ferry::wholeShare, plain::wholeShare);
        go("meanPieces()", ferry::meanPieces, plain::meanPieces);
        go("translations()", ferry::translations, plain::translations);
    }

    // ---- wrong calls

    private int wild(int most) {
        return random.nextInt(most + 4) - 2;
    }

    private char wildCategory() {
        return "ABSVZ@[-a".charAt(random.nextInt(9));
    }

    private void wrong() {
        int a = wild(2);
        int b = wild(8);
        int c = wild(4);
        int d = wild(64);
        int e = wild(60);
        char one = wildCategory();
        char two = wildCategory();
        char three = wildCategory();
        switch (random.nextInt(12)) {
            case 0 -> go("addStem(" + a + one + e + " " + d + ")", () -> ferry.addStem(a, one, e, d, true),
                    () -> plain.addStem(a, one, e, d, true));
            case 1 -> go("addEnding(" + a + one + d + ")", () -> ferry.addEnding(a, one, d),
                    () -> plain.addEnding(a, one, d));
            case 2 -> go("addJoint(" + a + one + two + three + ")", () -> ferry.addJoint(a, 'a', one, two, three),
                    () -> plain.addJoint(a, 'a', one, two, three));
            case 3 -> go("addRule(" + a + one + two + three + b + ")", () -> ferry.addRule(a, one, two, three, true, b),
                    () -> plain.addRule(a, one, two, three, true, b));
            case 4 -> go("setRule(" + a + ", " + b + ", " + c + ", " + c + ", " + b + ")",
                    () -> ferry.setRule(a, b, b, c, b), () -> plain.setRule(a, b, b, c, b));
            case 5 -> go("addTransfer(" + a + ", " + e + ", " + d + ", " + e + ")",
                    () -> ferry.addTransfer(a, e, d, e), () -> plain.addTransfer(a, e, d, e));
            case 6 -> go("turnRole(" + a + ", " + b + ", " + c + ")",
                    () -> ferry.turnRole(a, b, c), () -> plain.turnRole(a, b, c));
            case 7 -> go("begin(" + (a + 2) + ")", () -> ferry.begin(a + 2), () -> plain.begin(a + 2));
            case 8 -> go("readings(" + b + ", " + c + ", " + one + ")", () -> ferry.readings(b, c, one),
                    () -> plain.readings(b, c, one));
            case 9 -> go("weight(" + b + ", " + c + ", " + one + ")", () -> ferry.weight(b, c, one),
                    () -> plain.weight(b, c, one));
            case 10 -> go("items(" + b + ", " + c + ")", () -> ferry.items(b, c), () -> plain.items(b, c));
            default -> go("write(" + a + ", " + b + ", " + c + ")", () -> ferry.write(a, b, c),
                    () -> plain.write(a, b, c));
        }
    }

    // ---- comparing

    private void compareWritten() {
        for (int i = 0; i <= plain.written.length(); i++) {
            int index = i;
            go("charAt(" + i + ")", () -> ferry.charAt(index), () -> plain.charAt(index));
        }
    }

    private void go(String call, Check.Call onFerry, Check.Call onPlain) {
        if (fault != null || calls >= CALLS) {
            return;
        }
        calls++;
        String got = Check.answerOf(onFerry);
        String want = Check.answerOf(onPlain);
        history.append(call).append(" -> ").append(want).append('\n');
        note(call.substring(0, call.indexOf('(')) + (want.length() > 4 && want.contains("Exc") ? " throws" : ""));
        if (call.equals("back()")) {
            note("back " + want);
        }
        if (!got.equals(want)) {
            fault = call + " answered " + got + ", due is " + want;
        }
    }

    private void note(String what) {
        seen.merge(what, 1, Integer::sum);
    }
}
