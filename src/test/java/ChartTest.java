import java.util.NoSuchElementException;

/** Promises 19 to 22: items, readings, weights and features of stretches. */
public final class ChartTest {
    private static final Check CHECK = new Check("ChartTest");

    public static void main(String[] args) {
        items();
        readings();
        manyReadings();
        weights();
        agreement();
        government();
        rulesOfOne();
        bestOfCategory();
        afterChanges();
        wrong();
        CHECK.end();
    }

    private static void items() {
        PhraseFerry x = new PhraseFerry();
        Check.ending(x, 0, "", 'N', 0);
        Check.ending(x, 0, "", 'N', 16);
        Check.ending(x, 0, "", 'V', 0);
        Check.stem(x, 0, "a", 'N', 1, 0);
        Check.stem(x, 0, "a", 'N', 2, 0);
        Check.stem(x, 0, "a", 'V', 3, 0);
        Check.say(x, "a b a");
        CHECK.is("19: category and features tell items apart", x.items(0, 1), 3);
        CHECK.is("19: none for an unknown word", x.items(1, 2), 0);
        CHECK.is("19: none without rules", x.items(0, 3), 0);
        CHECK.is("20: of a category", x.readings(0, 1, 'N'), 4L);
        CHECK.is("20: of another one", x.readings(0, 1, 'V'), 1L);
        CHECK.is("20: of none", x.readings(0, 1, 'Z'), 0L);
        x.removeWord(1);
        Check.rule(x, 0, "S=N+V*", 1);
        CHECK.is("19: made by a rule", x.items(0, 2), 1);
        CHECK.is("20: the product", x.readings(0, 2, 'S'), 4L);
    }

    private static void readings() {
        PhraseFerry x = new PhraseFerry();
        Check.ending(x, 0, "", 'A', 0);
        Check.stem(x, 0, "a", 'A', 1, 0);
        Check.rule(x, 0, "A=A*+A", 1);
        Check.say(x, "a a a a a a");
        long[] trees = {1, 1, 2, 5, 14, 42};
        for (int length = 1; length <= 6; length++) {
            CHECK.is("20: trees of " + length, x.readings(0, length, 'A'), trees[length - 1]);
            CHECK.is("20: at the end", x.readings(6 - length, 6, 'A'), trees[length - 1]);
            CHECK.is("19: one item", x.items(0, length), 1);
        }
        Check.rule(x, 0, "A=A+A*", 1);
        CHECK.is("20: twice for each of five rules", x.readings(0, 6, 'A'), 42L * 32);
        Check.rule(x, 0, "B=A", 0);
        Check.rule(x, 0, "B=A", 0);
        CHECK.is("20: a rule of one told twice", x.readings(0, 6, 'B'), 2 * 42L * 32);
        Check.rule(x, 0, "C=A", 0);
        Check.rule(x, 0, "C=B", 0);
        CHECK.is("20: two ways up", x.readings(0, 1, 'C'), 3L);
    }

    /** 600 analyses for each of six words: more than a long holds with more rules, and all of it kept. */
    private static void manyReadings() {
        PhraseFerry x = new PhraseFerry();
        for (int i = 0; i < 20; i++) {
            x.addEnding(0, 'A', 0);
        }
        for (int i = 0; i < 30; i++) {
            Check.stem(x, 0, "a", 'A', i, 0);
        }
        Check.rule(x, 0, "A=A*+A", 1);
        Check.say(x, "a a a a a a");
        CHECK.is("18: 600", x.analyses(5), 600);
        CHECK.is("20: 42 times 600 to the 6th", x.readings(0, 6, 'A'), 42L * 46656L * 1000000000000L);
        CHECK.is("19: one item", x.items(0, 6), 1);
    }

    private static void weights() {
        PhraseFerry x = new PhraseFerry();
        for (char category : "NVDS".toCharArray()) {
            Check.ending(x, 0, "", category, 0);
        }
        Check.stem(x, 0, "n", 'N', 1, 0);
        Check.stem(x, 0, "v", 'V', 2, 0);
        Check.stem(x, 0, "d", 'D', 3, 0);
        Check.rule(x, 0, "N=D+N*", 1, 0, 0, 2);
        Check.rule(x, 0, "S=N+V*", 1, 0, 0, 3);
        Check.say(x, "d n v");
        CHECK.is("21: a word alone", x.weight(0, 1, 'D'), 0);
        CHECK.is("21: a rule", x.weight(0, 2, 'N'), 2);
        CHECK.is("21: the sum", x.weight(0, 3, 'S'), 5);
        Check.rule(x, 0, "V=N+V*", 1, 0, 0, 9);
        Check.rule(x, 0, "S=D+V*", 1, 0, 0, 1);
        CHECK.is("21: the least stays", x.weight(0, 3, 'S'), 5);
        CHECK.is("20: both are read", x.readings(0, 3, 'S'), 2L);
        x.setRule(0, 2, 0, 0, 3);
        CHECK.is("21: the other is the least", x.weight(0, 3, 'S'), 4);
        Check.stem(x, 0, "dnv", 'S', 4, 0);
        x.begin(0);
        Check.say(x, "dnv");
        CHECK.is("21: an analysis weighs nothing", x.weight(0, 1, 'S'), 0);
    }

    private static PhraseFerry pair(String shape, int left, int right, int fit, int govern) {
        PhraseFerry x = new PhraseFerry();
        x.addEnding(0, 'N', 0);
        x.addEnding(0, 'V', 0);
        Check.stem(x, 0, "n", 'N', 1, left);
        Check.stem(x, 0, "v", 'V', 2, right);
        Check.rule(x, 0, shape, 1, fit, govern, 0);
        Check.say(x, "n v");
        return x;
    }

    private static int featuresOf(PhraseFerry x) {
        try {
            return x.features(0, 2, 'S');
        } catch (NoSuchElementException e) {
            return -1;
        }
    }

    private static void agreement() {
        CHECK.is("22: nothing must fit, those of the right head", featuresOf(pair("S=N+V*", 21, 42, 0, 0)), 42);
        CHECK.is("22: nothing must fit, those of the left head", featuresOf(pair("S=N*+V", 21, 42, 0, 0)), 21);
        CHECK.is("22: number differs", featuresOf(pair("S=N+V*", 16, 32, 1, 0)), -1);
        CHECK.is("22: number is joined", featuresOf(pair("S=N+V*", 16 + 4 + 1, 0, 1, 0)), 16);
        CHECK.is("22: number is the head's", featuresOf(pair("S=N+V*", 0, 48, 1, 0)), 48);
        CHECK.is("22: gender differs", featuresOf(pair("S=N+V*", 4, 8, 2, 0)), -1);
        CHECK.is("22: gender is joined", featuresOf(pair("S=N+V*", 16 + 8 + 1, 0, 2, 0)), 8);
        CHECK.is("22: gender is not asked for", featuresOf(pair("S=N+V*", 4, 8, 5, 0)), 8);
        CHECK.is("22: case differs", featuresOf(pair("S=N+V*", 1, 2, 4, 0)), -1);
        CHECK.is("22: case is joined", featuresOf(pair("S=N+V*", 16 + 8 + 3, 0, 4, 0)), 3);
        CHECK.is("22: all are joined", featuresOf(pair("S=N*+V", 32, 4 + 3, 7, 0)), 39);
        CHECK.is("22: one of all differs", featuresOf(pair("S=N*+V", 32 + 8, 32 + 4 + 3, 7, 0)), -1);
    }

    private static void government() {
        CHECK.is("22: the dependent's case fits", featuresOf(pair("S=N+V*", 2, 0, 0, 2)), 0);
        CHECK.is("22: it does not", featuresOf(pair("S=N+V*", 1, 0, 0, 2)), -1);
        CHECK.is("22: it is open, and not joined", featuresOf(pair("S=N+V*", 0, 3, 0, 2)), 3);
        CHECK.is("22: the head's case is free", featuresOf(pair("S=N+V*", 2, 1, 0, 2)), 1);
        CHECK.is("22: the left head's case is free", featuresOf(pair("S=N*+V", 1, 2, 0, 2)), 1);
        CHECK.is("22: as it is joined, it does not fit", featuresOf(pair("S=N+V*", 0, 3, 4, 2)), -1);
        CHECK.is("22: as it is joined, it fits", featuresOf(pair("S=N+V*", 0, 2, 4, 2)), 2);
        CHECK.is("22: both open", featuresOf(pair("S=N+V*", 0, 0, 4, 2)), 0);
        CHECK.is("22: number and gender are free", featuresOf(pair("S=N+V*", 21 + 41, 0, 0, 2)), 0);
    }

    private static void rulesOfOne() {
        PhraseFerry x = new PhraseFerry();
        x.addEnding(0, 'A', 0);
        Check.stem(x, 0, "a", 'A', 1, 16 + 8 + 2);
        Check.stem(x, 0, "b", 'A', 1, 16 + 8);
        Check.rule(x, 0, "B=A", 0, 0, 2, 4);
        Check.rule(x, 0, "C=A", 0, 7, 3, 1);
        Check.rule(x, 0, "D=B", 0, 0, 0, 5);
        Check.say(x, "a b");
        CHECK.is("22: the same features", x.features(0, 1, 'B'), 26);
        CHECK.fails("22: a case that does not fit", NoSuchElementException.class, () -> x.features(0, 1, 'C'));
        CHECK.is("22: the case is joined", x.features(1, 2, 'C'), 27);
        CHECK.is("22: and the other one", x.features(1, 2, 'B'), 26);
        CHECK.is("22: one on another", x.features(1, 2, 'D'), 26);
        CHECK.is("21: and its weight", x.weight(1, 2, 'D'), 9);
        CHECK.is("19: all of them", x.items(1, 2), 4);
        Check.rule(x, 0, "A=D*+D", 0);
        Check.rule(x, 0, "Z=A", 0);
        CHECK.is("22: above a rule of two", x.features(0, 2, 'Z'), 26);
        CHECK.is("21: and its weight", x.weight(0, 2, 'D'), 27);
    }

    private static void bestOfCategory() {
        PhraseFerry x = new PhraseFerry();
        x.addEnding(0, 'A', 0);
        x.addEnding(0, 'B', 0);
        Check.stem(x, 0, "a", 'A', 1, 7);
        Check.stem(x, 0, "a", 'A', 2, 5);
        Check.stem(x, 0, "a", 'B', 3, 63);
        Check.say(x, "a");
        CHECK.is("22: the lowest features", x.features(0, 1, 'A'), 5);
        Check.rule(x, 0, "C=A", 0, 0, 0, 3);
        Check.rule(x, 0, "C=B", 0, 0, 0, 2);
        CHECK.is("22: the least weight comes first", x.features(0, 1, 'C'), 63);
        CHECK.is("21: its weight", x.weight(0, 1, 'C'), 2);
        CHECK.is("20: of all items of the category", x.readings(0, 1, 'C'), 3L);
        CHECK.is("19: items", x.items(0, 1), 6);
    }

    private static void afterChanges() {
        PhraseFerry x = new PhraseFerry();
        Check.say(x, "a b a");
        CHECK.is("19: nothing is known", x.items(0, 1), 0);
        x.addEnding(0, 'A', 0);
        Check.stem(x, 0, "a", 'A', 1, 0);
        CHECK.is("19: behind a stem", x.items(0, 1) + x.items(2, 3), 2);
        Check.ending(x, 0, "c", 'A', 16);
        x.addJoint(0, 'a', 'c', 'b', '-');
        CHECK.is("19: behind a joint", x.items(1, 2), 1);
        Check.rule(x, 0, "A=A*+A", 1);
        CHECK.is("19: behind a rule", x.items(0, 3), 1);
        x.setRule(0, 0, 1, 0, 7);
        CHECK.is("21: behind setRule", x.weight(0, 3, 'A'), 14);
        CHECK.is("22: behind setRule", x.features(0, 3, 'A'), 16);
        x.begin(0);
        Check.say(x, "a a");
        CHECK.is("19: behind begin", x.items(0, 2), 1);
        Check.type(x, "b");
        x.insertWord(1);
        CHECK.is("22: behind a word put in", x.features(0, 3, 'A'), 16);
        x.removeWord(0);
        CHECK.is("22: behind one taken out", x.features(0, 1, 'A'), 16);
        CHECK.is("22: what moved along", x.features(1, 2, 'A'), 0);
    }

    private static void wrong() {
        PhraseFerry x = new PhraseFerry();
        x.addEnding(0, 'A', 0);
        Check.stem(x, 0, "a", 'A', 1, 0);
        CHECK.fails("19: no words", IndexOutOfBoundsException.class, () -> x.items(0, 0));
        CHECK.fails("19: no words, one asked for", IndexOutOfBoundsException.class, () -> x.items(0, 1));
        Check.say(x, "a a a a a a");
        int[][] wrongs = {{0, 0}, {6, 6}, {1, 1}, {2, 1}, {-1, 2}, {0, 7}, {6, 7}, {5, 7}, {-1, -1},
            {Integer.MIN_VALUE, 1}, {0, Integer.MAX_VALUE}, {Integer.MIN_VALUE, Integer.MAX_VALUE}};
        for (int[] wrong : wrongs) {
            int from = wrong[0];
            int to = wrong[1];
            String name = from + " to " + to;
            CHECK.fails("19: " + name, IndexOutOfBoundsException.class, () -> x.items(from, to));
            CHECK.fails("20: " + name, IndexOutOfBoundsException.class, () -> x.readings(from, to, 'a'));
            CHECK.fails("21: " + name, IndexOutOfBoundsException.class, () -> x.weight(from, to, 'a'));
            CHECK.fails("22: " + name, IndexOutOfBoundsException.class, () -> x.features(from, to, 'a'));
        }
        for (char category : new char[] {'@', '[', 'a', '-', 0, 0xffff}) {
            CHECK.fails("20: category", IllegalArgumentException.class, () -> x.readings(0, 2, category));
            CHECK.fails("21: category", IllegalArgumentException.class, () -> x.weight(0, 2, category));
            CHECK.fails("22: category", IllegalArgumentException.class, () -> x.features(0, 2, category));
        }
        CHECK.is("20: no such item", x.readings(0, 2, 'A'), 0L);
        CHECK.fails("21: no such item", NoSuchElementException.class, () -> x.weight(0, 2, 'A'));
        CHECK.fails("22: no such item", NoSuchElementException.class, () -> x.features(0, 2, 'A'));
        CHECK.is("19: the whole is there", x.items(0, 6), 0);
        CHECK.is("19: the last word is there", x.items(5, 6), 1);
    }
}
