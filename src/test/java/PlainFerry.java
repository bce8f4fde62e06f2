import java.util.ArrayList;
import java.util.Arrays;
import java.util.Comparator;
import java.util.HashMap;
import java.util.HashSet;
import java.util.List;
import java.util.Map;
import java.util.NoSuchElementException;
import java.util.Set;
import java.util.TreeMap;

/**
 * The document told once more, as plainly as can be: nothing is kept but what was told, texts are
 * strings, and every chart is found anew for each question. It shares no code with PhraseFerry.
 */
final class PlainFerry {
    record Stem(String letters, char category, int meaning, int features, boolean isCounted) { }

    record Ending(String letters, char category, int features) { }

    record Joint(char last, char first, String newLast, String newFirst) { }

    record Transfer(int meaning, int context, int target) { }

    record Item(char category, int features) { }

    record Made(int weight, String text) { }

    record Reason(char kind, int meaning) { }

    record Piece(int from, int to, boolean isCopied, int weight, String text) { }

    static final class Rule {
        char category;
        char left;
        char right;
        boolean isLeftHead;
        int role;
        int fit;
        int govern;
        int weight;
    }

    static final class Language {
        final List<Stem> stems = new ArrayList<>();
        final List<Ending> endings = new ArrayList<>();
        final List<Joint> joints = new ArrayList<>();
        final List<Rule> rules = new ArrayList<>();
        final List<Transfer> transfers = new ArrayList<>();
        final int[] roles = {0, 1, 2, 3, 4, 5, 6, 7};
    }

    /** One way to make an item: of an analysis if rule is -1, of one item if right is null. */
    static final class Way {
        int weight;
        int stem;
        int ending;
        int rule = -1;
        int from;
        int middle;
        int to;
        Item left;
        Item right;
    }

    static final class Entry {
        long readings;
        final List<Way> ways = new ArrayList<>();

        Way best() {
            return ways.stream().min(Comparator
                    .comparingInt((Way w) -> w.weight)
                    .thenComparingInt(w -> w.rule < 0 ? 0 : 1)
                    .thenComparingInt(w -> w.stem)
                    .thenComparingInt(w -> w.ending)
                    .thenComparingInt(w -> w.rule)
                    .thenComparingInt(w -> w.middle)
                    .thenComparingInt(w -> w.left == null ? 0 : w.left.features)
                    .thenComparingInt(w -> w.right == null ? 0 : w.right.features)).get();
        }
    }

    static final class Node {
        int meaning;
        int number;
        boolean isCounted;
        final List<Part> parts = new ArrayList<>();

        List<Part> written() {
            List<Part> sorted = new ArrayList<>(parts);
            sorted.sort(Comparator.comparingInt((Part p) -> p.role).thenComparing(p -> p.node.text()));
            return sorted;
        }

        String text() {
            StringBuilder out = new StringBuilder().append(meaning);
            if (number != 0) {
                out.append('.').append(number);
            }
            String between = "(";
            for (Part part : written()) {
                out.append(between).append(part.role).append(':').append(part.node.text());
                between = ",";
            }
            return parts.isEmpty() ? out.toString() : out.append(')').toString();
        }
    }

    record Part(int role, Node node) { }

    static final Comparator<Item> BY_CATEGORY =
            Comparator.comparing(Item::category).thenComparing(Item::features);

    final Language[] languages = {new Language(), new Language()};
    int language;
    String buffer = "";
    List<String> sentence = new ArrayList<>();
    String written = "";
    int found;
    int translations;
    int wholes;
    int pieceSum;
    boolean isWhole;
    int pieces;
    int copied;
    int target;
    String output = "";
    String transferred = "";
    List<Reason> reasons = new ArrayList<>();
    // Which stretches stand, as 10 * from + to.
    Set<Integer> standing = new HashSet<>();

    // ---- letters, words, rules

    int type(char letter) {
        require(letter >= 'a' && letter <= 'z');
        room(buffer.length() < 40);
        buffer += letter;
        return buffer.length();
    }

    int clear() {
        return take().length();
    }

    int addStem(int language, char category, int meaning, int features, boolean isCounted) {
        index(language == 0 || language == 1);
        require(isCategory(category) && 0 <= meaning && meaning <= 59 && 0 <= features && features <= 63
                && !buffer.isEmpty() && buffer.length() <= 8);
        List<Stem> stems = languages[language].stems;
        room(stems.size() < 30);
        stems.add(new Stem(take(), category, meaning, features, isCounted));
        changed(language);
        return stems.size() - 1;
    }

    int addEnding(int language, char category, int features) {
        index(language == 0 || language == 1);
        require(isCategory(category) && 0 <= features && features <= 63 && buffer.length() <= 4);
        List<Ending> endings = languages[language].endings;
        room(endings.size() < 20);
        endings.add(new Ending(take(), category, features));
        changed(language);
        return endings.size() - 1;
    }

    int addJoint(int language, char last, char first, char newLast, char newFirst) {
        index(language == 0 || language == 1);
        String letters = "abcdefghijklmnopqrstuvwxyz";
        require(letters.indexOf(last) >= 0 && letters.indexOf(first) >= 0
                && (letters + "-").indexOf(newLast) >= 0 && (letters + "-").indexOf(newFirst) >= 0);
        List<Joint> joints = languages[language].joints;
        room(joints.size() < 10);
        joints.add(new Joint(last, first, newLast == '-' ? "" : "" + newLast, newFirst == '-' ? "" : "" + newFirst));
        changed(language);
        return joints.size();
    }

    int addRule(int language, char category, char left, char right, boolean isLeftHead, int role) {
        index(language == 0 || language == 1);
        require(isCategory(category) && isCategory(left) && (isCategory(right) || right == '-')
                && (right == '-' ? left < category : 0 <= role && role <= 7));
        List<Rule> rules = languages[language].rules;
        room(rules.size() < 24);
        Rule rule = new Rule();
        rule.category = category;
        rule.left = left;
        rule.right = right;
        rule.isLeftHead = isLeftHead;
        rule.role = role;
        rules.add(rule);
        changed(language);
        return rules.size() - 1;
    }

    int setRule(int language, int rule, int fit, int govern, int weight) {
        index(language == 0 || language == 1);
        index(0 <= rule && rule < languages[language].rules.size());
        Rule told = languages[language].rules.get(rule);
        require((told.right == '-' || 0 <= fit && fit <= 7) && 0 <= govern && govern <= 3
                && 0 <= weight && weight <= 9);
        int before = told.weight;
        told.fit = fit;
        told.govern = govern;
        told.weight = weight;
        changed(language);
        return before;
    }

    int addTransfer(int language, int meaning, int context, int target) {
        index(language == 0 || language == 1);
        require(0 <= meaning && meaning <= 59 && -1 <= context && context <= 59 && 0 <= target && target <= 59);
        List<Transfer> transfers = languages[language].transfers;
        room(transfers.size() < 40);
        transfers.add(new Transfer(meaning, context, target));
        return transfers.size();
    }

    int turnRole(int language, int role, int target) {
        index(language == 0 || language == 1);
        require(0 <= role && role <= 7 && 0 <= target && target <= 7);
        int before = languages[language].roles[role];
        languages[language].roles[role] = target;
        return before;
    }

    int write(int language, int stem, int ending) {
        index(language == 0 || language == 1);
        Language words = languages[language];
        index(0 <= stem && stem < words.stems.size() && 0 <= ending && ending < words.endings.size());
        String form = form(words, words.stems.get(stem), words.endings.get(ending));
        exists(form != null);
        written = form;
        return written.length();
    }

    // ---- sentences

    int begin(int language) {
        index(language == 0 || language == 1);
        int before = sentence.size();
        this.language = language;
        sentence = new ArrayList<>();
        standing = new HashSet<>();
        return before;
    }

    int addWord() {
        require(!buffer.isEmpty());
        room(sentence.size() < 6);
        return putWord(sentence.size());
    }

    int insertWord(int index) {
        index(0 <= index && index <= sentence.size());
        require(!buffer.isEmpty());
        room(sentence.size() < 6);
        return putWord(index);
    }

    private int putWord(int index) {
        sentence.add(index, take());
        Set<Integer> kept = new HashSet<>();
        for (int stretch : standing) {
            int from = stretch / 10;
            int to = stretch % 10;
            if (to <= index) {
                kept.add(stretch);
            } else if (from >= index) {
                kept.add(stretch + 11);
            }
        }
        standing = kept;
        findMissing();
        return sentence.size();
    }

    int setWord(int index) {
        index(0 <= index && index < sentence.size());
        require(!buffer.isEmpty());
        sentence.set(index, take());
        standing.removeIf(s -> s / 10 <= index && index < s % 10);
        findMissing();
        return analyses(index);
    }

    int removeWord(int index) {
        index(0 <= index && index < sentence.size());
        sentence.remove(index);
        Set<Integer> kept = new HashSet<>();
        for (int stretch : standing) {
            if (stretch % 10 <= index) {
                kept.add(stretch);
            } else if (stretch / 10 > index) {
                kept.add(stretch - 11);
            }
        }
        standing = kept;
        findMissing();
        return sentence.size();
    }

    int words() {
        return sentence.size();
    }

    int analyses(int index) {
        index(0 <= index && index < sentence.size());
        int count = 0;
        Language words = languages[language];
        for (Stem stem : words.stems) {
            for (Ending ending : words.endings) {
                count += sentence.get(index).equals(form(words, stem, ending)) ? 1 : 0;
            }
        }
        return count;
    }

    int items(int from, int to) {
        stretch(from, to);
        return chart().get(10 * from + to).size();
    }

    long readings(int from, int to, char category) {
        stretch(from, to);
        require(isCategory(category));
        return chart().get(10 * from + to).entrySet().stream()
                .filter(e -> e.getKey().category == category).mapToLong(e -> e.getValue().readings).sum();
    }

    int weight(int from, int to, char category) {
        Item item = asked(from, to, category);
        return chart().get(10 * from + to).get(item).best().weight;
    }

    int features(int from, int to, char category) {
        return asked(from, to, category).features;
    }

    int writeMeaning(int from, int to, char category) {
        Item item = asked(from, to, category);
        written = tree(languages[language], chart(), from, to, item).text();
        return written.length();
    }

    char charAt(int index) {
        index(0 <= index && index < written.length());
        return written.charAt(index);
    }

    // ---- translating

    char translate() {
        room(!sentence.isEmpty());
        reasons = new ArrayList<>();
        target = 1 - language;
        String whole = whole();
        isWhole = whole != null;
        if (isWhole) {
            pieces = 1;
            copied = 0;
            output = whole;
        } else {
            cut();
        }
        written = output;
        translations++;
        wholes += isWhole ? 1 : 0;
        pieceSum += pieces;
        return isWhole ? 'w' : 'p';
    }

    int writeTransferred() {
        Node node = sentenceTree();
        exists(node != null);
        Node other = transfer(node, -1, new ArrayList<>());
        exists(other != null);
        written = other.text();
        return written.length();
    }

    int pieces() {
        return pieces;
    }

    int copied() {
        return copied;
    }

    int reasons() {
        return reasons.size();
    }

    char reason(int index) {
        index(0 <= index && index < reasons.size());
        return reasons.get(index).kind;
    }

    int reasonMeaning(int index) {
        index(0 <= index && index < reasons.size());
        return reasons.get(index).meaning;
    }

    char back() {
        room(isWhole);
        List<String> read = Arrays.asList(output.split(" "));
        Map<Integer, Map<Item, Entry>> chart = chart(languages[target], read);
        Item item = best(chart.get(read.size()), 'S');
        if (item == null) {
            return 'n';
        }
        return tree(languages[target], chart, 0, read.size(), item).text().equals(transferred) ? 'e' : 'd';
    }

    // ---- figures

    int found() {
        return found;
    }

    int translations() {
        return translations;
    }

    float wholeShare() {
        count();
        return (float) wholes / (float) translations;
    }

    double meanPieces() {
        count();
        return (double) pieceSum / (double) translations;
    }

    boolean isSound() {
        return true;
    }

    // ---- what these share

    static void index(boolean isThere) {
        if (!isThere) {
            throw new IndexOutOfBoundsException();
        }
    }

    static void require(boolean isRight) {
        if (!isRight) {
            throw new IllegalArgumentException();
        }
    }

    static void room(boolean isThere) {
        if (!isThere) {
            throw new IllegalStateException();
        }
    }

    static void exists(boolean isThere) {
        if (!isThere) {
            throw new NoSuchElementException();
        }
    }

    void count() {
        if (translations == 0) {
            throw new ArithmeticException();
        }
    }

    void stretch(int from, int to) {
        index(0 <= from && from < to && to <= sentence.size());
    }

    static boolean isCategory(char category) {
        return "ABCDEFGHIJKLMNOPQRSTUVWXYZ".indexOf(category) >= 0;
    }

    String take() {
        String letters = buffer;
        buffer = "";
        return letters;
    }

    void changed(int changedLanguage) {
        if (changedLanguage == language) {
            standing = new HashSet<>();
            findMissing();
        }
    }

    void findMissing() {
        for (int from = 0; from < sentence.size(); from++) {
            for (int to = from + 1; to <= sentence.size(); to++) {
                found += standing.add(10 * from + to) ? 1 : 0;
            }
        }
    }

    static int[] three(int features) {
        return new int[] {features / 16, features / 4 % 4, features % 4};
    }

    /** The joined features, or -1 if they do not fit. */
    static int join(int one, int other) {
        int[] a = three(one);
        int[] b = three(other);
        int joined = 0;
        for (int i = 0; i < 3; i++) {
            if (a[i] != b[i] && a[i] != 0 && b[i] != 0) {
                return -1;
            }
            joined = 4 * joined + Math.max(a[i], b[i]);
        }
        return joined;
    }

    static String form(Language words, Stem stem, Ending ending) {
        if (stem.category != ending.category || join(stem.features, ending.features) < 0) {
            return null;
        }
        if (ending.letters.isEmpty()) {
            return stem.letters;
        }
        char last = stem.letters.charAt(stem.letters.length() - 1);
        char first = ending.letters.charAt(0);
        for (Joint joint : words.joints) {
            if (joint.last == last && joint.first == first) {
                String form = stem.letters.substring(0, stem.letters.length() - 1)
                        + joint.newLast + joint.newFirst + ending.letters.substring(1);
                return form.isEmpty() ? null : form;
            }
        }
        return stem.letters + ending.letters;
    }

    /** What a rule of two makes of features, or -1. */
    static int apply(Rule rule, int left, int right) {
        int[] head = three(rule.isLeftHead ? left : right);
        int[] dependent = three(rule.isLeftHead ? right : left);
        int[] bits = {1, 2, 4};
        int features = 0;
        int caseOfDependent = dependent[2];
        for (int i = 0; i < 3; i++) {
            int value = head[i];
            if ((rule.fit & bits[i]) != 0) {
                if (head[i] != 0 && dependent[i] != 0 && head[i] != dependent[i]) {
                    return -1;
                }
                value = Math.max(head[i], dependent[i]);
                if (i == 2) {
                    caseOfDependent = value;
                }
            }
            features = 4 * features + value;
        }
        boolean isGoverned = rule.govern == 0 || caseOfDependent == 0 || caseOfDependent == rule.govern;
        return isGoverned ? features : -1;
    }

    Map<Integer, Map<Item, Entry>> chart() {
        return chart(languages[language], sentence);
    }

    static Map<Integer, Map<Item, Entry>> chart(Language words, List<String> sentence) {
        Map<Integer, Map<Item, Entry>> chart = new HashMap<>();
        for (int length = 1; length <= sentence.size(); length++) {
            for (int from = 0; from + length <= sentence.size(); from++) {
                Map<Item, Entry> made = new TreeMap<>(BY_CATEGORY);
                if (length == 1) {
                    analyse(words, sentence.get(from), made);
                }
                for (int middle = from + 1; middle < from + length; middle++) {
                    combine(words, from, middle, from + length, chart, made);
                }
                for (char category = 'A'; category <= 'Z'; category++) {
                    lift(words, category, from, from + length, made);
                }
                chart.put(10 * from + from + length, made);
            }
        }
        return chart;
    }

    static void analyse(Language words, String word, Map<Item, Entry> made) {
        for (int stem = 0; stem < words.stems.size(); stem++) {
            for (int ending = 0; ending < words.endings.size(); ending++) {
                Stem s = words.stems.get(stem);
                Ending e = words.endings.get(ending);
                if (word.equals(form(words, s, e))) {
                    Way way = new Way();
                    way.stem = stem;
                    way.ending = ending;
                    note(made, new Item(s.category, join(s.features, e.features)), way, 1);
                }
            }
        }
    }

    static void combine(Language words, int from, int middle, int to,
            Map<Integer, Map<Item, Entry>> chart, Map<Item, Entry> made) {
        Map<Item, Entry> lefts = chart.get(10 * from + middle);
        Map<Item, Entry> rights = chart.get(10 * middle + to);
        for (int number = 0; number < words.rules.size(); number++) {
            Rule rule = words.rules.get(number);
            for (Item left : lefts.keySet()) {
                for (Item right : rights.keySet()) {
                    if (left.category != rule.left || right.category != rule.right) {
                        continue;
                    }
                    int features = apply(rule, left.features, right.features);
                    if (features < 0) {
                        continue;
                    }
                    Way way = new Way();
                    way.rule = number;
                    way.from = from;
                    way.middle = middle;
                    way.to = to;
                    way.left = left;
                    way.right = right;
                    way.weight = rule.weight + lefts.get(left).best().weight + rights.get(right).best().weight;
                    note(made, new Item(rule.category, features), way,
                            lefts.get(left).readings * rights.get(right).readings);
                }
            }
        }
    }

    static void lift(Language words, char category, int from, int to, Map<Item, Entry> made) {
        List<Item> items = made.keySet().stream().filter(i -> i.category == category).toList();
        for (Item item : items) {
            for (int number = 0; number < words.rules.size(); number++) {
                Rule rule = words.rules.get(number);
                int features = join(item.features, rule.govern);
                if (rule.right != '-' || rule.left != category || features < 0) {
                    continue;
                }
                Way way = new Way();
                way.rule = number;
                way.from = from;
                way.to = to;
                way.left = item;
                way.weight = rule.weight + made.get(item).best().weight;
                note(made, new Item(rule.category, features), way, made.get(item).readings);
            }
        }
    }

    static void note(Map<Item, Entry> made, Item item, Way way, long readings) {
        Entry entry = made.computeIfAbsent(item, i -> new Entry());
        entry.ways.add(way);
        entry.readings += readings;
    }

    Item asked(int from, int to, char category) {
        stretch(from, to);
        require(isCategory(category));
        Item item = best(chart().get(10 * from + to), category);
        exists(item != null);
        return item;
    }

    /** The best item of a category, or of any if that is 0. */
    static Item best(Map<Item, Entry> items, char category) {
        return items.keySet().stream().filter(i -> category == 0 || i.category == category)
                .min(Comparator.comparingInt((Item i) -> items.get(i).best().weight).thenComparing(BY_CATEGORY))
                .orElse(null);
    }

    static Node tree(Language words, Map<Integer, Map<Item, Entry>> chart, int from, int to, Item item) {
        Way way = chart.get(10 * from + to).get(item).best();
        Node node;
        if (way.rule < 0) {
            node = new Node();
            node.meaning = words.stems.get(way.stem).meaning;
            node.isCounted = words.stems.get(way.stem).isCounted;
        } else if (way.right == null) {
            node = tree(words, chart, from, to, way.left);
        } else {
            Rule rule = words.rules.get(way.rule);
            Node left = tree(words, chart, from, way.middle, way.left);
            Node right = tree(words, chart, way.middle, to, way.right);
            node = rule.isLeftHead ? left : right;
            node.parts.add(new Part(rule.role, rule.isLeftHead ? right : left));
        }
        node.number = node.isCounted ? item.features / 16 : 0;
        return node;
    }

    Node sentenceTree() {
        if (sentence.isEmpty()) {
            return null;
        }
        Map<Integer, Map<Item, Entry>> chart = chart();
        Item item = best(chart.get(sentence.size()), 'S');
        return item == null ? null : tree(languages[language], chart, 0, sentence.size(), item);
    }

    /** The transferred tree, or null; what lacks a transfer is put in missing. */
    Node transfer(Node node, int context, List<Integer> missing) {
        Language words = languages[language];
        Transfer used = words.transfers.stream()
                .filter(t -> t.meaning == node.meaning && t.context == context).findFirst()
                .orElse(words.transfers.stream()
                        .filter(t -> t.meaning == node.meaning && t.context == -1).findFirst().orElse(null));
        if (used == null) {
            missing.add(node.meaning);
            return null;
        }
        Node other = new Node();
        other.meaning = used.target;
        other.number = node.number;
        for (Part part : node.written()) {
            Node transferredPart = transfer(part.node, node.meaning, missing);
            if (transferredPart == null) {
                return null;
            }
            other.parts.add(new Part(words.roles[part.role], transferredPart));
        }
        return other;
    }

    /** The items of a tree with a set of its parts, as they are written. */
    static Map<Item, Made> make(Language words, Node node, Set<Integer> parts) {
        Map<Item, Made> made = new TreeMap<>(BY_CATEGORY);
        if (parts.isEmpty()) {
            for (Stem stem : words.stems) {
                for (Ending ending : words.endings) {
                    String form = form(words, stem, ending);
                    if (stem.meaning != node.meaning || form == null) {
                        continue;
                    }
                    int features = join(stem.features, ending.features);
                    if (!stem.isCounted || node.number == 0 || node.number == features / 16) {
                        offer(made, new Item(stem.category, features), new Made(0, form));
                    }
                }
            }
        }
        for (int last : parts) {
            Set<Integer> others = new HashSet<>(parts);
            others.remove(last);
            Part part = node.written().get(last);
            Map<Item, Made> heads = make(words, node, others);
            Map<Item, Made> dependents = make(words, part.node, all(part.node));
            for (Rule rule : words.rules) {
                if (rule.right == '-' || rule.role != part.role) {
                    continue;
                }
                Map<Item, Made> lefts = rule.isLeftHead ? heads : dependents;
                Map<Item, Made> rights = rule.isLeftHead ? dependents : heads;
                for (Item left : lefts.keySet()) {
                    for (Item right : rights.keySet()) {
                        int features = apply(rule, left.features, right.features);
                        if (left.category == rule.left && right.category == rule.right && features >= 0) {
                            Made l = lefts.get(left);
                            Made r = rights.get(right);
                            offer(made, new Item(rule.category, features),
                                    new Made(l.weight + r.weight + rule.weight, l.text + " " + r.text));
                        }
                    }
                }
            }
        }
        for (char category = 'A'; category <= 'Z'; category++) {
            for (Item item : new ArrayList<>(made.keySet())) {
                for (Rule rule : words.rules) {
                    int features = join(item.features, rule.govern);
                    if (item.category == category && rule.right == '-' && rule.left == category && features >= 0) {
                        Made from = made.get(item);
                        offer(made, new Item(rule.category, features),
                                new Made(from.weight + rule.weight, from.text));
                    }
                }
            }
        }
        return made;
    }

    static Set<Integer> all(Node node) {
        Set<Integer> parts = new HashSet<>();
        for (int i = 0; i < node.parts.size(); i++) {
            parts.add(i);
        }
        return parts;
    }

    static void offer(Map<Item, Made> made, Item item, Made offered) {
        Made held = made.get(item);
        if (held == null || offered.weight < held.weight
                || offered.weight == held.weight && offered.text.compareTo(held.text) < 0) {
            made.put(item, offered);
        }
    }

    String whole() {
        Node node = sentenceTree();
        if (node == null) {
            reasons.add(new Reason('g', -1));
            return null;
        }
        List<Integer> missing = new ArrayList<>();
        Node other = transfer(node, -1, missing);
        if (other == null) {
            reasons.add(new Reason('t', missing.get(0)));
            return null;
        }
        Map<Item, Made> made = make(languages[target], other, all(other));
        Made best = made.entrySet().stream().filter(e -> e.getKey().category == 'S')
                .min(Comparator.comparingInt((Map.Entry<Item, Made> e) -> e.getValue().weight)
                        .thenComparing(e -> e.getValue().text)
                        .thenComparing(e -> e.getKey().features))
                .map(Map.Entry::getValue).orElse(null);
        if (best != null) {
            transferred = other.text();
            return best.text;
        }
        if (made.isEmpty()) {
            tellUnmade(other);
        } else {
            reasons.add(new Reason('s', other.meaning));
        }
        return null;
    }

    void tellUnmade(Node node) {
        if (make(languages[target], node, Set.of()).isEmpty()) {
            reasons.add(new Reason('n', node.meaning));
            return;
        }
        reasons.add(new Reason('f', node.meaning));
        for (Part part : node.written()) {
            if (make(languages[target], part.node, all(part.node)).isEmpty()) {
                tellUnmade(part.node);
                return;
            }
        }
    }

    void cut() {
        Map<Integer, Map<Item, Entry>> chart = chart();
        List<List<Piece>> cuts = new ArrayList<>();
        Map<Integer, Piece> known = new HashMap<>();
        for (int from = 0; from < sentence.size(); from++) {
            for (int to = from + 1; to <= sentence.size(); to++) {
                known.put(10 * from + to, piece(chart, from, to));
            }
        }
        gather(known, 0, new ArrayList<>(), cuts);
        List<Piece> best = cuts.get(0);
        for (List<Piece> cut : cuts) {
            if (isBetter(cut, best)) {
                best = cut;
            }
        }
        pieces = best.size();
        copied = (int) best.stream().filter(Piece::isCopied).count();
        List<String> texts = best.stream().map(Piece::text).toList();
        output = String.join(" ", texts);
    }

    static boolean isBetter(List<Piece> one, List<Piece> other) {
        long copiesOfOne = one.stream().filter(Piece::isCopied).count();
        long copiesOfOther = other.stream().filter(Piece::isCopied).count();
        if (copiesOfOne != copiesOfOther) {
            return copiesOfOne < copiesOfOther;
        }
        if (one.size() != other.size()) {
            return one.size() < other.size();
        }
        int weightOfOne = one.stream().mapToInt(Piece::weight).sum();
        int weightOfOther = other.stream().mapToInt(Piece::weight).sum();
        if (weightOfOne != weightOfOther) {
            return weightOfOne < weightOfOther;
        }
        for (int i = 0; i < one.size(); i++) {
            int length = one.get(i).to - one.get(i).from;
            int otherLength = other.get(i).to - other.get(i).from;
            if (length != otherLength) {
                return length > otherLength;
            }
        }
        return false;
    }

    void gather(Map<Integer, Piece> known, int from, List<Piece> sofar, List<List<Piece>> cuts) {
        if (from == sentence.size()) {
            cuts.add(new ArrayList<>(sofar));
            return;
        }
        for (int to = from + 1; to <= sentence.size(); to++) {
            List<Piece> choices = new ArrayList<>();
            if (known.get(10 * from + to) != null) {
                choices.add(known.get(10 * from + to));
            }
            if (to == from + 1) {
                choices.add(new Piece(from, to, true, 0, "*" + sentence.get(from)));
            }
            for (Piece piece : choices) {
                sofar.add(piece);
                gather(known, to, sofar, cuts);
                sofar.remove(sofar.size() - 1);
            }
        }
    }

    Piece piece(Map<Integer, Map<Item, Entry>> chart, int from, int to) {
        Map<Item, Entry> items = chart.get(10 * from + to);
        Item item = best(items, (char) 0);
        if (item == null) {
            return null;
        }
        Node other = transfer(tree(languages[language], chart, from, to, item), -1, new ArrayList<>());
        if (other == null) {
            return null;
        }
        return make(languages[target], other, all(other)).entrySet().stream()
                .min(Comparator.comparingInt((Map.Entry<Item, Made> e) -> e.getValue().weight)
                        .thenComparing(e -> e.getKey().category)
                        .thenComparing(e -> e.getValue().text)
                        .thenComparing(e -> e.getKey().features))
                .map(e -> new Piece(from, to, false, items.get(item).best().weight, e.getValue().text))
                .orElse(null);
    }
}
