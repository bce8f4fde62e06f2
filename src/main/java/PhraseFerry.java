import java.util.ArrayList;
import java.util.Arrays;
import java.util.NoSuchElementException;

/** A translator by rules between two languages. */
public final class PhraseFerry {
    private static final int LANGUAGES = 2;
    private static final int MOST_LETTERS = 40;
    private static final int MOST_STEMS = 30;
    private static final int MOST_STEM_LETTERS = 8;
    private static final int MOST_ENDINGS = 20;
    private static final int MOST_ENDING_LETTERS = 4;
    private static final int MOST_JOINTS = 10;
    private static final int MOST_RULES = 24;
    private static final int MOST_TRANSFERS = 40;
    private static final int MOST_WORDS = 6;
    private static final int MOST_STRETCHES = 21;
    private static final int MOST_OUTPUT = 256;
    private static final int MOST_MEANING = 64;
    private static final int MEANINGS = 60;
    private static final int ROLES = 8;
    private static final int CASES = 4;
    private static final int MOST_WEIGHT = 9;
    private static final int MOST_FIT = 7;
    private static final int NONE = -1;

    private static final int CATEGORIES = 26;
    private static final int SENTENCE = 'S' - 'A';

    // Features are three numbers of two bits; an item is a category and features in one number.
    private static final int FEATURES = 64;
    private static final int FEATURE_BITS = 6;
    private static final int NUMBER_SHIFT = 4;
    private static final int NUMBER_MASK = 48;
    private static final int GENDER_MASK = 12;
    private static final int CASE_MASK = 3;
    private static final int LOW_BITS = 21;

    // Packed letters stand from the top in groups of five bits, a as 1, so that the order of
    // the numbers is the order of the texts; a form has 12 letters at most and always fits.
    private static final int PACKED_LETTERS = 12;
    private static final int LETTER_BITS = 5;
    private static final int LETTER_MASK = 31;
    private static final int FIRST_LETTER_SHIFT = 55;

    // A reading is one number, its weight above how it is made, so that the least number is the
    // best reading: an analysis is a stem and an ending, and else the flag stands above the rule,
    // the length of the left stretch, and the features of the left and the right item.
    private static final int WEIGHT_SHIFT = 21;
    private static final int BY_RULE = 1 << 20;
    private static final int RULE_SHIFT = 15;
    private static final int LENGTH_SHIFT = 12;
    private static final int LENGTH_MASK = 7;
    private static final int STEM_SHIFT = 5;

    // A made text is one number, the ranks of its forms from the top in groups of ten bits: as a
    // blank comes ahead of all letters, the order of the numbers is the order of the texts.
    private static final int RANK_BITS = 10;
    private static final int RANK_MASK = 1023;
    private static final int FIRST_RANK_SHIFT = 50;

    private final Language[] languages = {new Language(), new Language()};
    private int language = 0;
    private final Text buffer = new Text(MOST_LETTERS);
    private final ArrayList<Text> sentence = new ArrayList<>();
    private final Chart chart = new Chart(languages[0]);
    private final Chart scratch = new Chart(languages[0]);
    private final Tree source = new Tree();
    private final Tree target = new Tree();
    private final Maker maker = new Maker(languages[1], target);
    private final Cutter cutter = new Cutter();
    private final Crossing crossing = new Crossing();
    private final Text written = new Text(MOST_OUTPUT);
    private int translationCount = 0;
    private int wholeCount = 0;
    private int pieceSum = 0;

    public PhraseFerry() {
    }

    // ---- letters, words, rules

    public int type(char letter) throws IllegalArgumentException, IllegalStateException {
        if (!isLetter(letter)) {
            throw new IllegalArgumentException("no letter");
        }
        if (buffer.length >= MOST_LETTERS) {
            throw new IllegalStateException("the buffer is full");
        }
        buffer.put(letter);
        return buffer.length;
    }

    public int clear() {
        int before = buffer.length;
        buffer.empty();
        return before;
    }

    public int addStem(int language, char category, int meaning, int features, boolean isCounted)
            throws IndexOutOfBoundsException, IllegalArgumentException, IllegalStateException {
        checkLanguage(language);
        checkRange(isCategory(category) && isMeaning(meaning) && isFeatures(features));
        checkRange(buffer.length >= 1 && buffer.length <= MOST_STEM_LETTERS);
        Language words = languages[language];
        checkRoom(words.stems.size() < MOST_STEMS);
        words.putStem(new Stem(buffer.packed(), category - 'A', meaning, features, isCounted));
        buffer.empty();
        chart.renewFor(words);
        return words.stems.size() - 1;
    }

    public int addEnding(int language, char category, int features)
            throws IndexOutOfBoundsException, IllegalArgumentException, IllegalStateException {
        checkLanguage(language);
        checkRange(isCategory(category) && isFeatures(features));
        checkRange(buffer.length <= MOST_ENDING_LETTERS);
        Language words = languages[language];
        checkRoom(words.endings.size() < MOST_ENDINGS);
        words.putEnding(new Ending(buffer.packed(), category - 'A', features));
        buffer.empty();
        chart.renewFor(words);
        return words.endings.size() - 1;
    }

    public int addJoint(int language, char last, char first, char newLast, char newFirst)
            throws IndexOutOfBoundsException, IllegalArgumentException, IllegalStateException {
        checkLanguage(language);
        checkRange(isLetter(last) && isLetter(first));
        checkRange(isLetter(newLast) || newLast == '-');
        checkRange(isLetter(newFirst) || newFirst == '-');
        Language words = languages[language];
        checkRoom(words.jointCount < MOST_JOINTS);
        words.putJoint(pair(last, first), pair(newLast, newFirst));
        chart.renewFor(words);
        return words.jointCount;
    }

    public int addRule(int language, char category, char left, char right, boolean isLeftHead, int role)
            throws IndexOutOfBoundsException, IllegalArgumentException, IllegalStateException {
        checkLanguage(language);
        checkRange(isCategory(category) && isCategory(left));
        boolean isOfOne = right == '-';
        checkRange(isOfOne ? left < category : isCategory(right) && isRole(role));
        Language words = languages[language];
        checkRoom(words.rules.size() < MOST_RULES);
        int rightCategory = isOfOne ? NONE : right - 'A';
        // A rule of one may be told with any number for the role, which must not get further.
        int keptRole = isOfOne ? 0 : role;
        words.rules.add(new Rule(category - 'A', left - 'A', rightCategory, isLeftHead, keptRole));
        chart.renewFor(words);
        return words.rules.size() - 1;
    }

    public int setRule(int language, int rule, int fit, int govern, int weight)
            throws IndexOutOfBoundsException, IllegalArgumentException {
        checkLanguage(language);
        Language words = languages[language];
        checkIndex(rule >= 0 && rule < words.rules.size());
        Rule told = words.rules.get(rule);
        checkRange(told.isOfOne() || fit >= 0 && fit <= MOST_FIT);
        checkRange(govern >= 0 && govern < CASES);
        checkRange(weight >= 0 && weight <= MOST_WEIGHT);
        int before = told.cost;
        // A rule of one may be told with any number for what must fit, which must not get further.
        told.ask(told.isOfOne() ? 0 : fit, govern, weight);
        chart.renewFor(words);
        return before;
    }

    public int addTransfer(int language, int meaning, int context, int target)
            throws IndexOutOfBoundsException, IllegalArgumentException, IllegalStateException {
        checkLanguage(language);
        checkRange(isMeaning(meaning) && isMeaning(target));
        checkRange(isMeaning(context) || context == NONE);
        Language words = languages[language];
        checkRoom(words.transferCount < MOST_TRANSFERS);
        words.putTransfer(meaning, context, target);
        return words.transferCount;
    }

    public int turnRole(int language, int role, int target)
            throws IndexOutOfBoundsException, IllegalArgumentException {
        checkLanguage(language);
        checkRange(isRole(role) && isRole(target));
        int[] roles = languages[language].roles;
        int before = roles[role];
        roles[role] = target;
        return before;
    }

    public int write(int language, int stem, int ending)
            throws IndexOutOfBoundsException, NoSuchElementException {
        checkLanguage(language);
        Language words = languages[language];
        checkIndex(stem >= 0 && stem < words.stems.size());
        checkIndex(ending >= 0 && ending < words.endings.size());
        long form = words.forms[stem * MOST_ENDINGS + ending];
        checkElement(form != 0);
        written.empty();
        written.putPacked(form);
        return written.length;
    }

    // ---- sentences

    public int begin(int language) throws IndexOutOfBoundsException {
        checkLanguage(language);
        int before = sentence.size();
        this.language = language;
        sentence.clear();
        chart.restart(languages[language]);
        return before;
    }

    public int addWord() throws IllegalArgumentException, IllegalStateException {
        checkRange(buffer.length > 0);
        checkRoom(sentence.size() < MOST_WORDS);
        Text word = takeLetters();
        sentence.add(word);
        chart.putWordIn(sentence.size() - 1, word.packed());
        return sentence.size();
    }

    public int insertWord(int index)
            throws IndexOutOfBoundsException, IllegalArgumentException, IllegalStateException {
        checkIndex(index >= 0 && index <= sentence.size());
        checkRange(buffer.length > 0);
        checkRoom(sentence.size() < MOST_WORDS);
        Text word = takeLetters();
        sentence.add(index, word);
        chart.putWordIn(index, word.packed());
        return sentence.size();
    }

    public int setWord(int index) throws IndexOutOfBoundsException, IllegalArgumentException {
        checkWord(index);
        checkRange(buffer.length > 0);
        Text word = takeLetters();
        sentence.set(index, word);
        chart.replaceWord(index, word.packed());
        return chart.countAnalyses(index);
    }

    public int removeWord(int index) throws IndexOutOfBoundsException {
        checkWord(index);
        sentence.remove(index);
        chart.takeWordOut(index);
        return sentence.size();
    }

    public int words() {
        return sentence.size();
    }

    public int analyses(int index) throws IndexOutOfBoundsException {
        checkWord(index);
        return chart.countAnalyses(index);
    }

    public int items(int from, int to) throws IndexOutOfBoundsException {
        checkStretch(from, to);
        return chart.at(from, to).countItems();
    }

    public long readings(int from, int to, char category)
            throws IndexOutOfBoundsException, IllegalArgumentException {
        checkStretch(from, to);
        checkRange(isCategory(category));
        return chart.at(from, to).countReadings(category - 'A');
    }

    public int weight(int from, int to, char category)
            throws IndexOutOfBoundsException, IllegalArgumentException, NoSuchElementException {
        int item = bestItem(from, to, category);
        return chart.at(from, to).costOf(item);
    }

    public int features(int from, int to, char category)
            throws IndexOutOfBoundsException, IllegalArgumentException, NoSuchElementException {
        return bestItem(from, to, category) & FEATURES - 1;
    }

    public int writeMeaning(int from, int to, char category)
            throws IndexOutOfBoundsException, IllegalArgumentException, NoSuchElementException {
        int item = bestItem(from, to, category);
        source.readOff(chart, from, to, item);
        return writeTree(source);
    }

    public char charAt(int index) throws IndexOutOfBoundsException {
        checkIndex(index >= 0 && index < written.length);
        return written.signs[index];
    }

    // ---- translating

    public char translate() throws IllegalStateException {
        checkRoom(!sentence.isEmpty());
        crossing.restart(1 - language);
        written.empty();
        crossWhole();
        if (!crossing.isWhole) {
            crossInPieces();
        }
        translationCount++;
        wholeCount += crossing.isWhole ? 1 : 0;
        pieceSum += crossing.pieceCount;
        return crossing.isWhole ? 'w' : 'p';
    }

    public int writeTransferred() throws NoSuchElementException {
        int item = sentenceItem(chart);
        checkElement(item != NONE);
        checkElement(transferItem(0, sentence.size(), item) == NONE);
        return writeTree(target);
    }

    public int pieces() {
        return crossing.pieceCount;
    }

    public int copied() {
        return crossing.copyCount;
    }

    public int reasons() {
        return crossing.reasonCount;
    }

    public char reason(int index) throws IndexOutOfBoundsException {
        checkIndex(index >= 0 && index < crossing.reasonCount);
        return crossing.kinds[index];
    }

    public int reasonMeaning(int index) throws IndexOutOfBoundsException {
        checkIndex(index >= 0 && index < crossing.reasonCount);
        return crossing.meanings[index];
    }

    public char back() throws IllegalStateException {
        checkRoom(crossing.isWhole);
        scratch.readAnew(languages[crossing.into], crossing.output, crossing.outputLength);
        int item = sentenceItem(scratch);
        if (item == NONE) {
            return 'n';
        }
        source.readOff(scratch, 0, scratch.count, item);
        return source.texts[0].isLike(crossing.meaning) ? 'e' : 'd';
    }

    // ---- figures

    public int found() {
        return chart.findings;
    }

    public int translations() {
        return translationCount;
    }

    public float wholeShare() throws ArithmeticException {
        checkCount(translationCount);
        return (float) wholeCount / (float) translationCount;
    }

    public double meanPieces() throws ArithmeticException {
        checkCount(translationCount);
        return (double) pieceSum / (double) translationCount;
    }

    public boolean isSound() {
        scratch.readAnew(languages[language], chart.keys, chart.count);
        return chart.isLike(scratch);
    }

    // ---- what calls share

    private static void checkLanguage(int language) {
        checkIndex(language >= 0 && language < LANGUAGES);
    }

    private static void checkIndex(boolean isThere) {
        if (!isThere) {
            throw new IndexOutOfBoundsException("there is no such thing");
        }
    }

    private static void checkRange(boolean isIn) {
        if (!isIn) {
            throw new IllegalArgumentException("out of range");
        }
    }

    private static void checkRoom(boolean isThere) {
        if (!isThere) {
            throw new IllegalStateException("not now");
        }
    }

    private static void checkElement(boolean isThere) {
        if (!isThere) {
            throw new NoSuchElementException("there is none");
        }
    }

    private static void checkCount(int count) {
        if (count <= 0) {
            throw new ArithmeticException("there were no translations");
        }
    }

    private void checkWord(int index) {
        checkIndex(index >= 0 && index < sentence.size());
    }

    private void checkStretch(int from, int to) {
        checkIndex(from >= 0 && from < to && to <= sentence.size());
    }

    private static boolean isLetter(char letter) {
        return letter >= 'a' && letter <= 'z';
    }

    private static boolean isCategory(char category) {
        return category >= 'A' && category <= 'Z';
    }

    private static boolean isMeaning(int meaning) {
        return meaning >= 0 && meaning < MEANINGS;
    }

    private static boolean isRole(int role) {
        return role >= 0 && role < ROLES;
    }

    private static boolean isFeatures(int features) {
        return features >= 0 && features < FEATURES;
    }

    private static boolean fit(int one, int other) {
        int difference = one ^ other;
        int clashes = (difference | difference >>> 1) & (one | one >>> 1) & (other | other >>> 1);
        return (clashes & LOW_BITS) == 0;
    }

    private static int packedLetter(char letter) {
        return isLetter(letter) ? letter - 'a' + 1 : 0;
    }

    private static int pair(char one, char other) {
        return packedLetter(one) << LETTER_BITS | packedLetter(other);
    }

    private static int letterAt(long packed, int index) {
        if (index < 0 || index >= PACKED_LETTERS) {
            return 0;
        }
        return (int) (packed >>> FIRST_LETTER_SHIFT - LETTER_BITS * index) & LETTER_MASK;
    }

    private static int countLetters(long packed) {
        int count = 0;
        while (count < PACKED_LETTERS && letterAt(packed, count) != 0) {
            count++;
        }
        return count;
    }

    private static long withLetter(long packed, int index, int letter) {
        if (index < 0 || index >= PACKED_LETTERS) {
            return packed;
        }
        int shift = FIRST_LETTER_SHIFT - LETTER_BITS * index;
        return packed & ~((long) LETTER_MASK << shift) | (long) letter << shift;
    }

    private Text takeLetters() {
        Text word = new Text(buffer.length);
        word.putText(buffer);
        buffer.empty();
        return word;
    }

    private int bestItem(int from, int to, char category) {
        checkStretch(from, to);
        checkRange(isCategory(category));
        int item = chart.at(from, to).bestOf(category - 'A');
        checkElement(item != NONE);
        return item;
    }

    private static int sentenceItem(Chart read) {
        return read.count > 0 ? read.at(0, read.count).bestOf(SENTENCE) : NONE;
    }

    private int writeTree(Tree tree) {
        written.empty();
        written.putText(tree.texts[0]);
        return written.length;
    }

    /** Puts the transferred tree of an item into target; the meaning without a transfer, or NONE. */
    private int transferItem(int from, int to, int item) {
        source.readOff(chart, from, to, item);
        return target.transferFrom(source, languages[language]);
    }

    private void crossWhole() {
        int item = sentenceItem(chart);
        if (item == NONE) {
            crossing.tell('g', NONE);
            return;
        }
        int missing = transferItem(0, sentence.size(), item);
        if (missing != NONE) {
            crossing.tell('t', missing);
            return;
        }
        Language other = languages[crossing.into];
        maker.make(other);
        if (maker.pick(SENTENCE, SENTENCE)) {
            crossing.setWhole(other, maker.pickedText, target);
            other.writeForms(written, maker.pickedText, target.nodes);
        } else {
            tellWhyUnmade();
        }
    }

    private void tellWhyUnmade() {
        int node = 0;
        for (int depth = 0; depth < MOST_WORDS && node != NONE; depth++) {
            if (!maker.hasForm(node)) {
                crossing.tell('n', target.meaning[node]);
                return;
            }
            if (maker.hasAll(node)) {
                crossing.tell('s', target.meaning[node]);
                return;
            }
            crossing.tell('f', target.meaning[node]);
            node = maker.firstUnmadePart(node);
        }
    }

    private void crossInPieces() {
        Language other = languages[crossing.into];
        for (int to = 1; to <= sentence.size(); to++) {
            for (int from = 0; from < to; from++) {
                cutter.forget(stretchIndex(from, to));
                Stretch stretch = chart.at(from, to);
                int item = stretch.bestOfAll();
                if (item == NONE || transferItem(from, to, item) != NONE) {
                    continue;
                }
                maker.make(other);
                if (maker.pick(0, CATEGORIES - 1)) {
                    cutter.keep(stretchIndex(from, to), stretch.costOf(item), maker.pickedText, target.nodes);
                }
            }
        }
        cutter.chooseCut(sentence.size());
        crossing.setPieces(cutter.countPieces(), cutter.countCopies());
        cutter.writeCut(written, sentence, other);
    }

    /** Stretches are numbered by their ends, then by their beginnings. */
    private static int stretchIndex(int from, int to) {
        return to * (to - 1) / 2 + from;
    }

    /** Characters, as many as there is room for. */
    private static final class Text {
        final char[] signs;
        int length = 0;

        Text(int room) {
            signs = new char[Math.max(room, 0)];
        }

        void empty() {
            length = 0;
        }

        void put(char sign) {
            if (length < signs.length) {
                signs[length] = sign;
                length++;
            }
        }

        /** A number below 100. */
        void putNumber(int number) {
            if (number >= 10) {
                put((char) ('0' + number / 10));
            }
            put((char) ('0' + number % 10));
        }

        void putText(Text other) {
            int count = Math.min(other.length, signs.length - length);
            System.arraycopy(other.signs, 0, signs, length, count);
            length += count;
        }

        void putPacked(long packed) {
            int count = countLetters(packed);
            for (int i = 0; i < count; i++) {
                put((char) ('a' - 1 + letterAt(packed, i)));
            }
        }

        /** The packed letters, or NONE, which is no form, if there are too many. */
        long packed() {
            if (length > PACKED_LETTERS) {
                return NONE;
            }
            long packed = 0;
            for (int i = 0; i < length; i++) {
                packed = withLetter(packed, i, packedLetter(signs[i]));
            }
            return packed;
        }

        int compareWith(Text other) {
            for (int i = 0; i < length && i < other.length; i++) {
                if (signs[i] != other.signs[i]) {
                    return signs[i] - other.signs[i];
                }
            }
            return length - other.length;
        }

        boolean isLike(Text other) {
            return compareWith(other) == 0;
        }
    }

    private static final class Stem {
        final long letters;
        final int category;
        final int meaning;
        final int marks;
        final boolean isCounted;

        Stem(long letters, int category, int meaning, int marks, boolean isCounted) {
            this.letters = letters;
            this.category = category;
            this.meaning = meaning;
            this.marks = marks;
            this.isCounted = isCounted;
        }
    }

    private static final class Ending {
        final long letters;
        final int category;
        final int marks;

        Ending(long letters, int category, int marks) {
            this.letters = letters;
            this.category = category;
            this.marks = marks;
        }
    }

    private static final class Rule {
        final int category;
        final int left;
        final int right;
        final boolean isLeftHead;
        final int role;
        int agreeing = 0;
        int govern = 0;
        int cost = 0;

        Rule(int category, int left, int right, boolean isLeftHead, int role) {
            this.category = category;
            this.left = left;
            this.right = right;
            this.isLeftHead = isLeftHead;
            this.role = role;
        }

        void ask(int fit, int govern, int weight) {
            agreeing = (fit & 1) * NUMBER_MASK | (fit >> 1 & 1) * GENDER_MASK | (fit >> 2) * CASE_MASK;
            this.govern = govern;
            cost = weight;
        }

        boolean isOfOne() {
            return right == NONE;
        }

        /** The features of what a rule of two makes, or NONE if they do not fit. */
        int joined(int leftMarks, int rightMarks) {
            int head = isLeftHead ? leftMarks : rightMarks;
            int dependent = isLeftHead ? rightMarks : leftMarks;
            int shared = dependent & agreeing;
            if (!fit(head, shared)) {
                return NONE;
            }
            int joinedDependent = dependent | head & agreeing;
            return fit(joinedDependent & CASE_MASK, govern) ? head | shared : NONE;
        }

        /** The features of what a rule of one makes, or NONE if they do not fit. */
        int raised(int marks) {
            int ownCase = marks & CASE_MASK;
            return ownCase == 0 || govern == 0 || ownCase == govern ? marks | govern : NONE;
        }
    }

    /** The words, rules and transfers of a language. */
    private static final class Language {
        final ArrayList<Stem> stems = new ArrayList<>();
        final ArrayList<Ending> endings = new ArrayList<>();
        final int[] jointFrom = new int[MOST_JOINTS];
        final int[] jointTo = new int[MOST_JOINTS];
        int jointCount = 0;
        final ArrayList<Rule> rules = new ArrayList<>();
        final int[] transferFrom = new int[MOST_TRANSFERS];
        final int[] transferContext = new int[MOST_TRANSFERS];
        final int[] transferTo = new int[MOST_TRANSFERS];
        int transferCount = 0;
        final int[] roles = {0, 1, 2, 3, 4, 5, 6, 7};
        final long[] forms = new long[MOST_STEMS * MOST_ENDINGS];
        final long[] sortedForms = new long[MOST_STEMS * MOST_ENDINGS];
        int sortedCount = 0;

        void putStem(Stem stem) {
            stems.add(stem);
            for (int ending = 0; ending < endings.size(); ending++) {
                putForm(stems.size() - 1, ending);
            }
        }

        void putEnding(Ending ending) {
            endings.add(ending);
            for (int stem = 0; stem < stems.size(); stem++) {
                putForm(stem, endings.size() - 1);
            }
        }

        void putJoint(int from, int to) {
            if (jointCount >= MOST_JOINTS) {
                return;
            }
            jointFrom[jointCount] = from;
            jointTo[jointCount] = to;
            jointCount++;
            sortedCount = 0;
            for (int stem = 0; stem < stems.size(); stem++) {
                for (int ending = 0; ending < endings.size(); ending++) {
                    putForm(stem, ending);
                }
            }
        }

        void putTransfer(int meaning, int context, int target) {
            if (transferCount < MOST_TRANSFERS) {
                transferFrom[transferCount] = meaning;
                transferContext[transferCount] = context;
                transferTo[transferCount] = target;
                transferCount++;
            }
        }

        /** What a meaning becomes with a context, or with none, which is NONE; NONE if nothing. */
        int transferOf(int meaning, int context) {
            int anywhere = NONE;
            for (int i = 0; i < transferCount; i++) {
                if (transferFrom[i] != meaning) {
                    continue;
                }
                if (transferContext[i] == context) {
                    return transferTo[i];
                }
                if (transferContext[i] == NONE && anywhere == NONE) {
                    anywhere = transferTo[i];
                }
            }
            return anywhere;
        }

        int marksOf(int stem, int ending) {
            return stems.get(stem).marks | endings.get(ending).marks;
        }

        private void putForm(int stem, int ending) {
            int place = stem * MOST_ENDINGS + ending;
            if (place < 0 || place >= forms.length) {
                return;
            }
            forms[place] = formOf(stems.get(stem), endings.get(ending));
            if (forms[place] != 0) {
                sortIn(forms[place]);
            }
        }

        /** The packed letters of a form, or 0 if there is none. */
        private long formOf(Stem stem, Ending ending) {
            if (stem.category != ending.category || !fit(stem.marks, ending.marks)) {
                return 0;
            }
            if (ending.letters == 0) {
                return stem.letters;
            }
            int last = countLetters(stem.letters) - 1;
            int met = jointOf(letterAt(stem.letters, last), letterAt(ending.letters, 0));
            long form = withLetter(stem.letters, last, met >>> LETTER_BITS);
            int length = countLetters(form);
            form = withLetter(form, length, met & LETTER_MASK);
            length = countLetters(form);
            int more = countLetters(ending.letters);
            for (int i = 1; i < more; i++) {
                form = withLetter(form, length + i - 1, letterAt(ending.letters, i));
            }
            return form;
        }

        /** What stands for the two letters at a joint, 0 for a letter that is left out. */
        private int jointOf(int last, int first) {
            int met = last << LETTER_BITS | first;
            for (int i = 0; i < jointCount; i++) {
                if (jointFrom[i] == met) {
                    return jointTo[i];
                }
            }
            return met;
        }

        private void sortIn(long form) {
            int place = placeOf(form);
            if (place < sortedCount && sortedForms[place] == form || sortedCount >= sortedForms.length) {
                return;
            }
            System.arraycopy(sortedForms, place, sortedForms, place + 1, sortedCount - place);
            sortedForms[place] = form;
            sortedCount++;
        }

        /** How many sorted forms are ahead of a form. */
        private int placeOf(long form) {
            int low = 0;
            int high = sortedCount;
            for (int step = 0; step < RANK_BITS && low < high; step++) {
                int middle = (low + high) >>> 1;
                if (sortedForms[middle] < form) {
                    low = middle + 1;
                } else {
                    high = middle;
                }
            }
            return low;
        }

        /** The text of one form; ranks begin at 1, as 0 is no form. */
        long textOf(long form) {
            return (long) (placeOf(form) + 1) << FIRST_RANK_SHIFT;
        }

        long formAt(long text, int index) {
            int rank = (int) (text >>> FIRST_RANK_SHIFT - RANK_BITS * index) & RANK_MASK;
            return rank >= 1 && rank <= sortedCount ? sortedForms[rank - 1] : 0;
        }

        void writeForms(Text out, long text, int count) {
            for (int i = 0; i < count && i < MOST_WORDS; i++) {
                if (i > 0) {
                    out.put(' ');
                }
                out.putPacked(formAt(text, i));
            }
        }
    }

    /** The items of a stretch. */
    private static final class Stretch {
        final long[] present = new long[CATEGORIES];
        final long[] counts = new long[CATEGORIES * FEATURES];
        final long[] best = new long[CATEGORIES * FEATURES];
        boolean isFound = false;

        void restart() {
            Arrays.fill(present, 0L);
            isFound = true;
        }

        void put(int item, long count, long reading) {
            int category = item >> FEATURE_BITS;
            long bit = 1L << (item & FEATURES - 1);
            if ((present[category] & bit) != 0) {
                counts[item] += count;
                best[item] = Math.min(best[item], reading);
            } else {
                present[category] |= bit;
                counts[item] = count;
                best[item] = reading;
            }
        }

        int costOf(int item) {
            return (int) (best[item] >>> WEIGHT_SHIFT);
        }

        int countItems() {
            int count = 0;
            for (int category = 0; category < CATEGORIES; category++) {
                count += Long.bitCount(present[category]);
            }
            return count;
        }

        long countReadings(int category) {
            long held = present[category];
            long count = 0;
            for (int marks = 0; marks < FEATURES && held >>> marks != 0; marks++) {
                if ((held >>> marks & 1) != 0) {
                    count += counts[category << FEATURE_BITS | marks];
                }
            }
            return count;
        }

        /** The best item of a category, or NONE. */
        int bestOf(int category) {
            long held = present[category];
            int chosen = NONE;
            for (int marks = 0; marks < FEATURES && held >>> marks != 0; marks++) {
                int item = category << FEATURE_BITS | marks;
                if ((held >>> marks & 1) != 0 && (chosen == NONE || costOf(item) < costOf(chosen))) {
                    chosen = item;
                }
            }
            return chosen;
        }

        /** The best item of all categories, or NONE. */
        int bestOfAll() {
            int chosen = NONE;
            for (int category = 0; category < CATEGORIES; category++) {
                int item = bestOf(category);
                if (item != NONE && (chosen == NONE || costOf(item) < costOf(chosen))) {
                    chosen = item;
                }
            }
            return chosen;
        }

        boolean isLike(Stretch other) {
            for (int category = 0; category < CATEGORIES; category++) {
                if (!isLikeIn(category, other)) {
                    return false;
                }
            }
            return true;
        }

        private boolean isLikeIn(int category, Stretch other) {
            long held = present[category];
            if (held != other.present[category]) {
                return false;
            }
            for (int marks = 0; marks < FEATURES && held >>> marks != 0; marks++) {
                int item = category << FEATURE_BITS | marks;
                boolean isHeld = (held >>> marks & 1) != 0;
                if (isHeld && (counts[item] != other.counts[item] || costOf(item) != other.costOf(item))) {
                    return false;
                }
            }
            return true;
        }
    }

    /** The items of all stretches of a sentence. */
    private static final class Chart {
        final Stretch[] stretches = new Stretch[MOST_STRETCHES];
        final long[] keys = new long[MOST_WORDS];
        int count = 0;
        int findings = 0;
        Language language;

        Chart(Language language) {
            this.language = language;
            for (int i = 0; i < stretches.length; i++) {
                stretches[i] = new Stretch();
            }
        }

        Stretch at(int from, int to) {
            return stretches[stretchIndex(from, to)];
        }

        void restart(Language language) {
            this.language = language;
            count = 0;
        }

        void readAnew(Language language, long[] words, int wordCount) {
            this.language = language;
            count = Math.min(wordCount, MOST_WORDS);
            System.arraycopy(words, 0, keys, 0, count);
            takeAway(0, count, 1, count);
            findMissing();
        }

        /** Finds all anew if it is the language of the sentence that changed. */
        void renewFor(Language changed) {
            if (changed == language) {
                takeAway(0, count, 1, count);
                findMissing();
            }
        }

        void putWordIn(int index, long key) {
            if (count >= MOST_WORDS) {
                return;
            }
            System.arraycopy(keys, index, keys, index + 1, count - index);
            for (int to = count; to > index; to--) {
                for (int from = to - 1; from >= index; from--) {
                    swap(stretchIndex(from, to), stretchIndex(from + 1, to + 1));
                }
            }
            keys[index] = key;
            count++;
            takeAway(0, index, index + 1, count);
            findMissing();
        }

        void replaceWord(int index, long key) {
            keys[index] = key;
            takeAway(0, index, index + 1, count);
            findMissing();
        }

        void takeWordOut(int index) {
            System.arraycopy(keys, index + 1, keys, index, count - index - 1);
            for (int from = index + 1; from < count; from++) {
                for (int to = from + 1; to <= count; to++) {
                    swap(stretchIndex(from, to), stretchIndex(from - 1, to - 1));
                }
            }
            count--;
            takeAway(0, index - 1, index + 1, count);
            findMissing();
        }

        int countAnalyses(int index) {
            int analyses = 0;
            for (int form = 0; form < language.forms.length; form++) {
                analyses += language.forms[form] == keys[index] ? 1 : 0;
            }
            return analyses;
        }

        boolean isLike(Chart other) {
            for (int to = 1; to <= count; to++) {
                for (int from = 0; from < to; from++) {
                    if (!at(from, to).isLike(other.at(from, to))) {
                        return false;
                    }
                }
            }
            return true;
        }

        /** Swapping keeps all stretches in place of making new ones; the one left behind is taken away. */
        private void swap(int one, int other) {
            Stretch moved = stretches[one];
            stretches[one] = stretches[other];
            stretches[other] = moved;
        }

        /** Takes the stretches away that begin and end in these bounds, both inclusive. */
        private void takeAway(int firstFrom, int lastFrom, int firstTo, int lastTo) {
            for (int to = firstTo; to <= lastTo; to++) {
                for (int from = firstFrom; from <= lastFrom && from < to; from++) {
                    at(from, to).isFound = false;
                }
            }
        }

        /** Shorter stretches come first, as longer ones are made of them. */
        private void findMissing() {
            for (int length = 1; length <= count; length++) {
                for (int from = 0; from + length <= count; from++) {
                    if (!at(from, from + length).isFound) {
                        find(from, from + length);
                    }
                }
            }
        }

        private void find(int from, int to) {
            Stretch made = at(from, to);
            made.restart();
            findings++;
            if (to - from == 1) {
                putAnalyses(keys[from], made);
            }
            for (int middle = from + 1; middle < to; middle++) {
                for (int number = 0; number < language.rules.size(); number++) {
                    if (!language.rules.get(number).isOfOne()) {
                        join(number, at(from, middle), at(middle, to), middle - from, made);
                    }
                }
            }
            raise(made);
        }

        private void putAnalyses(long key, Stretch made) {
            for (int stem = 0; stem < language.stems.size(); stem++) {
                for (int ending = 0; ending < language.endings.size(); ending++) {
                    if (language.forms[stem * MOST_ENDINGS + ending] == key) {
                        int category = language.stems.get(stem).category;
                        int marks = language.marksOf(stem, ending);
                        made.put(category << FEATURE_BITS | marks, 1, stem << STEM_SHIFT | ending);
                    }
                }
            }
        }

        private void join(int number, Stretch left, Stretch right, int length, Stretch made) {
            Rule rule = language.rules.get(number);
            long lefts = left.present[rule.left];
            long rights = right.present[rule.right];
            if (lefts == 0 || rights == 0) {
                return;
            }
            int how = BY_RULE | number << RULE_SHIFT | length << LENGTH_SHIFT;
            for (int one = 0; one < FEATURES && lefts >>> one != 0; one++) {
                if ((lefts >>> one & 1) == 0) {
                    continue;
                }
                int leftItem = rule.left << FEATURE_BITS | one;
                for (int two = 0; two < FEATURES && rights >>> two != 0; two++) {
                    int marks = (rights >>> two & 1) != 0 ? rule.joined(one, two) : NONE;
                    if (marks == NONE) {
                        continue;
                    }
                    int rightItem = rule.right << FEATURE_BITS | two;
                    long cost = rule.cost + left.costOf(leftItem) + right.costOf(rightItem);
                    made.put(rule.category << FEATURE_BITS | marks,
                            left.counts[leftItem] * right.counts[rightItem],
                            cost << WEIGHT_SHIFT | how | one << FEATURE_BITS | two);
                }
            }
        }

        /** Goes up the categories, as a rule of one always makes a higher one. */
        private void raise(Stretch made) {
            for (int category = 0; category < CATEGORIES; category++) {
                for (int number = 0; number < language.rules.size() && made.present[category] != 0; number++) {
                    Rule rule = language.rules.get(number);
                    if (rule.isOfOne() && rule.left == category) {
                        raiseBy(rule, number, made);
                    }
                }
            }
        }

        private void raiseBy(Rule rule, int number, Stretch made) {
            long held = made.present[rule.left];
            int how = BY_RULE | number << RULE_SHIFT;
            for (int only = 0; only < FEATURES && held >>> only != 0; only++) {
                int marks = (held >>> only & 1) != 0 ? rule.raised(only) : NONE;
                if (marks != NONE) {
                    int item = rule.left << FEATURE_BITS | only;
                    long cost = rule.cost + made.costOf(item);
                    made.put(rule.category << FEATURE_BITS | marks, made.counts[item],
                            cost << WEIGHT_SHIFT | how | only << FEATURE_BITS);
                }
            }
        }
    }

    /** A meaning: nodes, of which each stands behind the one that it is a part of. */
    private static final class Tree {
        // A node of each word and, of each of them, at most one step a word and category.
        private static final int MOST_STEPS = MOST_WORDS * (CATEGORIES + 1);

        final int[] meaning = new int[MOST_WORDS];
        final int[] number = new int[MOST_WORDS];
        final int[] role = new int[MOST_WORDS];
        final int[] parent = new int[MOST_WORDS];
        final int[] size = new int[MOST_WORDS];
        final int[] partCount = new int[MOST_WORDS];
        final int[] parts = new int[MOST_WORDS * MOST_WORDS];
        final int[] place = new int[MOST_WORDS];
        final int[] order = new int[MOST_WORDS];
        final Text[] texts = new Text[MOST_WORDS];
        int nodes = 0;
        // Where the head of a node that is read off a chart stands.
        private final int[] from = new int[MOST_WORDS];
        private final int[] to = new int[MOST_WORDS];
        private final int[] item = new int[MOST_WORDS];

        Tree() {
            for (int i = 0; i < texts.length; i++) {
                texts[i] = new Text(MOST_MEANING);
            }
        }

        /** Becomes the tree of the best reading of an item. */
        void readOff(Chart chart, int from, int to, int item) {
            nodes = 0;
            grow(NONE, 0, from, to, item);
            for (int node = 0; node < nodes && node < MOST_WORDS; node++) {
                goDown(node, chart);
            }
            arrange();
        }

        /** Becomes the transferred tree; the first meaning without a transfer, or NONE. */
        int transferFrom(Tree source, Language language) {
            nodes = source.nodes;
            for (int i = 0; i < nodes; i++) {
                int node = source.order[i];
                int above = source.parent[node];
                int context = above == NONE ? NONE : source.meaning[above];
                int becomes = language.transferOf(source.meaning[node], context);
                if (becomes == NONE) {
                    return source.meaning[node];
                }
                meaning[node] = becomes;
                number[node] = source.number[node];
                role[node] = language.roles[source.role[node]];
                parent[node] = above;
            }
            arrange();
            return NONE;
        }

        private void grow(int above, int asRole, int start, int end, int top) {
            if (nodes >= MOST_WORDS) {
                return;
            }
            parent[nodes] = above;
            role[nodes] = asRole;
            from[nodes] = start;
            to[nodes] = end;
            item[nodes] = top;
            number[nodes] = (top & FEATURES - 1) >> NUMBER_SHIFT;
            nodes++;
        }

        private void goDown(int node, Chart chart) {
            for (int step = 0; step < MOST_STEPS; step++) {
                int how = (int) (chart.at(from[node], to[node]).best[item[node]] & 2 * BY_RULE - 1);
                if ((how & BY_RULE) == 0) {
                    setMeaning(node, chart.language, how >> STEM_SHIFT);
                    return;
                }
                int rule = (how ^ BY_RULE) >> RULE_SHIFT;
                if (rule < chart.language.rules.size()) {
                    takeStep(node, chart.language.rules.get(rule), how);
                }
            }
        }

        private void setMeaning(int node, Language language, int stem) {
            if (stem < language.stems.size()) {
                meaning[node] = language.stems.get(stem).meaning;
                number[node] = language.stems.get(stem).isCounted ? number[node] : 0;
            }
        }

        private void takeStep(int node, Rule rule, int how) {
            int leftItem = rule.left << FEATURE_BITS | how >> FEATURE_BITS & FEATURES - 1;
            if (rule.isOfOne()) {
                item[node] = leftItem;
                return;
            }
            int rightItem = rule.right << FEATURE_BITS | how & FEATURES - 1;
            int middle = from[node] + (how >> LENGTH_SHIFT & LENGTH_MASK);
            if (rule.isLeftHead) {
                grow(node, rule.role, middle, to[node], rightItem);
                to[node] = middle;
                item[node] = leftItem;
            } else {
                grow(node, rule.role, from[node], middle, leftItem);
                from[node] = middle;
                item[node] = rightItem;
            }
        }

        /** Sorts the parts and writes the texts, parts ahead of what they are parts of. */
        private void arrange() {
            for (int node = nodes - 1; node >= 0; node--) {
                size[node] = 1;
                partCount[node] = 0;
                for (int part = node + 1; part < nodes; part++) {
                    if (parent[part] == node) {
                        size[node] += size[part];
                        putPart(node, part);
                    }
                }
                writeNode(node);
            }
            orderNodes();
        }

        private void putPart(int node, int part) {
            int first = node * MOST_WORDS;
            int at = first + partCount[node];
            while (at > first) {
                int other = parts[at - 1];
                int difference = role[part] - role[other];
                if (difference == 0) {
                    difference = texts[part].compareWith(texts[other]);
                }
                if (difference >= 0) {
                    break;
                }
                parts[at] = other;
                at--;
            }
            parts[at] = part;
            partCount[node]++;
        }

        private void writeNode(int node) {
            Text out = texts[node];
            out.empty();
            out.putNumber(meaning[node]);
            if (number[node] != 0) {
                out.put('.');
                out.putNumber(number[node]);
            }
            for (int i = 0; i < partCount[node]; i++) {
                int part = parts[node * MOST_WORDS + i];
                out.put(i == 0 ? '(' : ',');
                out.putNumber(role[part]);
                out.put(':');
                out.putText(texts[part]);
            }
            if (partCount[node] > 0) {
                out.put(')');
            }
        }

        /** Puts the nodes in the order in which they are written. */
        private void orderNodes() {
            place[0] = 0;
            order[0] = 0;
            for (int node = 0; node < nodes; node++) {
                int next = place[node] + 1;
                for (int i = 0; i < partCount[node]; i++) {
                    int part = parts[node * MOST_WORDS + i];
                    place[part] = next;
                    if (next < MOST_WORDS) {
                        order[next] = part;
                    }
                    next += size[part];
                }
            }
        }
    }

    /** Makes the items of a tree: each node has a block of them for each set of its parts. */
    private static final class Maker {
        // The most are needed for one node with all others as its parts.
        private static final int MOST_BLOCKS = (1 << MOST_WORDS - 1) + MOST_WORDS - 1;

        final Tree tree;
        Language language;
        final int[] firstBlock = new int[MOST_WORDS];
        final int[] wordCount = new int[MOST_BLOCKS];
        final long[] present = new long[MOST_BLOCKS * CATEGORIES];
        final int[] costs = new int[MOST_BLOCKS * CATEGORIES * FEATURES];
        final long[] texts = new long[MOST_BLOCKS * CATEGORIES * FEATURES];
        int pickedCost = 0;
        long pickedText = 0;

        Maker(Language language, Tree tree) {
            this.language = language;
            this.tree = tree;
        }

        /** Makes the items of the nodes, parts ahead of what they are parts of. */
        void make(Language language) {
            this.language = language;
            int block = 0;
            for (int node = tree.nodes - 1; node >= 0; node--) {
                int sets = 1 << tree.partCount[node];
                firstBlock[node] = block;
                for (int set = 0; set < sets && block < MOST_BLOCKS; set++) {
                    fill(node, set, block);
                    block++;
                }
            }
        }

        boolean hasForm(int node) {
            return isFilled(firstBlock[node]);
        }

        boolean hasAll(int node) {
            return isFilled(fullBlock(node));
        }

        /** The first part, as the node is written, that has no item with all parts, or NONE. */
        int firstUnmadePart(int node) {
            for (int i = 0; i < tree.partCount[node]; i++) {
                int part = tree.parts[node * MOST_WORDS + i];
                if (!hasAll(part)) {
                    return part;
                }
            }
            return NONE;
        }

        /** Picks the best item of the whole tree from some categories; false if there is none. */
        boolean pick(int firstCategory, int lastCategory) {
            int block = fullBlock(0);
            int picked = NONE;
            for (int category = firstCategory; category <= lastCategory; category++) {
                long held = present[block * CATEGORIES + category];
                for (int marks = 0; marks < FEATURES && held >>> marks != 0; marks++) {
                    int cell = cellOf(block, category, marks);
                    if ((held >>> marks & 1) != 0 && (picked == NONE || costs[cell] < pickedCost
                            || costs[cell] == pickedCost && category == picked && texts[cell] < pickedText)) {
                        picked = category;
                        pickedCost = costs[cell];
                        pickedText = texts[cell];
                    }
                }
            }
            return picked != NONE;
        }

        private boolean isFilled(int block) {
            for (int category = 0; category < CATEGORIES; category++) {
                if (present[block * CATEGORIES + category] != 0) {
                    return true;
                }
            }
            return false;
        }

        private int fullBlock(int node) {
            return firstBlock[node] + (1 << tree.partCount[node]) - 1;
        }

        private static int cellOf(int block, int category, int marks) {
            return (block * CATEGORIES + category) * FEATURES + marks;
        }

        private void fill(int node, int set, int block) {
            Arrays.fill(present, block * CATEGORIES, (block + 1) * CATEGORIES, 0L);
            wordCount[block] = 1;
            if (set == 0) {
                putForms(node, block);
            }
            for (int i = 0; i < tree.partCount[node]; i++) {
                if ((set >> i & 1) == 0) {
                    continue;
                }
                int part = tree.parts[node * MOST_WORDS + i];
                int headBlock = firstBlock[node] + (set ^ 1 << i);
                wordCount[block] += tree.size[part];
                for (int number = 0; number < language.rules.size(); number++) {
                    Rule rule = language.rules.get(number);
                    if (!rule.isOfOne() && rule.role == tree.role[part]) {
                        join(rule, headBlock, fullBlock(part), block);
                    }
                }
            }
            raise(block);
        }

        private void putForms(int node, int block) {
            for (int number = 0; number < language.stems.size(); number++) {
                Stem stem = language.stems.get(number);
                if (stem.meaning != tree.meaning[node]) {
                    continue;
                }
                int asked = stem.isCounted ? tree.number[node] : 0;
                for (int ending = 0; ending < language.endings.size(); ending++) {
                    long form = language.forms[number * MOST_ENDINGS + ending];
                    int marks = language.marksOf(number, ending);
                    if (form != 0 && (asked == 0 || asked == marks >> NUMBER_SHIFT)) {
                        put(block, stem.category << FEATURE_BITS | marks, 0, language.textOf(form));
                    }
                }
            }
        }

        private void join(Rule rule, int headBlock, int partBlock, int block) {
            int leftBlock = rule.isLeftHead ? headBlock : partBlock;
            int rightBlock = rule.isLeftHead ? partBlock : headBlock;
            long lefts = present[leftBlock * CATEGORIES + rule.left];
            long rights = present[rightBlock * CATEGORIES + rule.right];
            if (lefts == 0 || rights == 0) {
                return;
            }
            int shift = RANK_BITS * wordCount[leftBlock];
            for (int one = 0; one < FEATURES && lefts >>> one != 0; one++) {
                if ((lefts >>> one & 1) == 0) {
                    continue;
                }
                int left = cellOf(leftBlock, rule.left, one);
                for (int two = 0; two < FEATURES && rights >>> two != 0; two++) {
                    int marks = (rights >>> two & 1) != 0 ? rule.joined(one, two) : NONE;
                    if (marks != NONE) {
                        int right = cellOf(rightBlock, rule.right, two);
                        put(block, rule.category << FEATURE_BITS | marks,
                                costs[left] + costs[right] + rule.cost, texts[left] | texts[right] >>> shift);
                    }
                }
            }
        }

        /** Goes up the categories, as a rule of one always makes a higher one. */
        private void raise(int block) {
            for (int category = 0; category < CATEGORIES; category++) {
                long held = present[block * CATEGORIES + category];
                for (int number = 0; number < language.rules.size() && held != 0; number++) {
                    Rule rule = language.rules.get(number);
                    if (rule.isOfOne() && rule.left == category) {
                        raiseBy(rule, held, block);
                    }
                }
            }
        }

        private void raiseBy(Rule rule, long held, int block) {
            for (int only = 0; only < FEATURES && held >>> only != 0; only++) {
                int marks = (held >>> only & 1) != 0 ? rule.raised(only) : NONE;
                if (marks != NONE) {
                    int cell = cellOf(block, rule.left, only);
                    put(block, rule.category << FEATURE_BITS | marks, costs[cell] + rule.cost, texts[cell]);
                }
            }
        }

        private void put(int block, int item, int cost, long text) {
            int cell = block * CATEGORIES * FEATURES + item;
            int row = block * CATEGORIES + (item >> FEATURE_BITS);
            long bit = 1L << (item & FEATURES - 1);
            boolean isNew = (present[row] & bit) == 0;
            if (isNew || cost < costs[cell] || cost == costs[cell] && text < texts[cell]) {
                present[row] |= bit;
                costs[cell] = cost;
                texts[cell] = text;
            }
        }
    }

    /** Chooses how a sentence is cut into pieces. */
    private static final class Cutter {
        private static final int COPIES_SHIFT = 40;
        private static final int PIECES_SHIFT = 32;

        private final boolean[] isMade = new boolean[MOST_STRETCHES];
        private final int[] costs = new int[MOST_STRETCHES];
        private final long[] texts = new long[MOST_STRETCHES];
        private final int[] wordCounts = new int[MOST_STRETCHES];
        private int length = 0;
        private int chosen = 0;
        private long chosenPrice = 0;

        void forget(int stretch) {
            isMade[stretch] = false;
        }

        void keep(int stretch, int cost, long text, int wordCount) {
            isMade[stretch] = true;
            costs[stretch] = cost;
            texts[stretch] = text;
            wordCounts[stretch] = wordCount;
        }

        /**
         * A cut is a number whose bits, the first place of the sentence highest, are where it is cut:
         * of two cuts the lower one has the longer piece where they first differ.
         */
        void chooseCut(int count) {
            length = count;
            chosen = 0;
            chosenPrice = Long.MAX_VALUE;
            for (int cut = 0; cut < 1 << length - 1; cut++) {
                long price = priceOf(cut);
                if (price < chosenPrice) {
                    chosen = cut;
                    chosenPrice = price;
                }
            }
        }

        int countCopies() {
            return (int) (chosenPrice >>> COPIES_SHIFT);
        }

        int countPieces() {
            return Integer.bitCount(chosen) + 1;
        }

        void writeCut(Text out, ArrayList<Text> sentence, Language other) {
            int from = 0;
            for (int to = 1; to <= length; to++) {
                if (!isCutAt(chosen, to)) {
                    continue;
                }
                if (from > 0) {
                    out.put(' ');
                }
                int stretch = stretchIndex(from, to);
                if (isMade[stretch]) {
                    other.writeForms(out, texts[stretch], wordCounts[stretch]);
                } else if (from < sentence.size()) {
                    out.put('*');
                    out.putText(sentence.get(from));
                }
                from = to;
            }
        }

        private boolean isCutAt(int cut, int to) {
            return to == length || (cut >> length - 1 - to & 1) != 0;
        }

        /** The copies above the pieces above the weights, or the greatest number for what can't be. */
        private long priceOf(int cut) {
            long price = 0;
            int from = 0;
            for (int to = 1; to <= length; to++) {
                if (!isCutAt(cut, to)) {
                    continue;
                }
                int stretch = stretchIndex(from, to);
                price += 1L << PIECES_SHIFT;
                if (isMade[stretch]) {
                    price += costs[stretch];
                } else if (to - from == 1) {
                    price += 1L << COPIES_SHIFT;
                } else {
                    return Long.MAX_VALUE;
                }
                from = to;
            }
            return price;
        }
    }

    /** What the last translation came to. */
    private static final class Crossing {
        boolean isWhole = false;
        int into = 0;
        int pieceCount = 0;
        int copyCount = 0;
        final char[] kinds = new char[MOST_WORDS];
        final int[] meanings = new int[MOST_WORDS];
        int reasonCount = 0;
        final long[] output = new long[MOST_WORDS];
        int outputLength = 0;
        final Text meaning = new Text(MOST_MEANING);

        void restart(int language) {
            isWhole = false;
            into = language;
            reasonCount = 0;
        }

        void tell(char kind, int about) {
            if (reasonCount < MOST_WORDS) {
                kinds[reasonCount] = kind;
                meanings[reasonCount] = about;
                reasonCount++;
            }
        }

        void setPieces(int pieces, int copies) {
            pieceCount = pieces;
            copyCount = copies;
        }

        void setWhole(Language other, long text, Tree tree) {
            isWhole = true;
            setPieces(1, 0);
            outputLength = tree.nodes;
            for (int i = 0; i < outputLength && i < MOST_WORDS; i++) {
                output[i] = other.formAt(text, i);
            }
            meaning.empty();
            meaning.putText(tree.texts[0]);
        }
    }
}
