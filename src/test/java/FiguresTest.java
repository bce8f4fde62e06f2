import java.lang.reflect.Field;

/** Promises 33 to 37: what was found, translations, shares and means, and whether the chart is sound. */
public final class FiguresTest {
    private static final Check CHECK = new Check("FiguresTest");

    public static void main(String[] args) {
        foundByWords();
        foundByEachEdit();
        foundByTellings();
        foundByNothing();
        translations();
        soundness();
        spoiltCharts();
        CHECK.end();
    }

    private static PhraseFerry told() {
        PhraseFerry x = new PhraseFerry();
        for (int language = 0; language < 2; language++) {
            Check.ending(x, language, "", 'A', 0);
            for (int meaning = 1; meaning <= 5; meaning++) {
                Check.stem(x, language, "" + (char) ('a' + meaning), 'A', meaning, 0);
            }
            Check.rule(x, language, "A=A*+A", 1);
            Check.rule(x, language, "S=A", 0);
        }
        return x;
    }

    private static int put(PhraseFerry x, int index, String word) {
        Check.type(x, word);
        x.insertWord(index);
        return x.found();
    }

    private static int set(PhraseFerry x, int index, String word) {
        Check.type(x, word);
        x.setWord(index);
        return x.found();
    }

    private static int remove(PhraseFerry x, int index) {
        x.removeWord(index);
        return x.found();
    }

    private static void foundByWords() {
        PhraseFerry x = told();
        CHECK.is("33: no words", x.found(), 0);
        int due = 0;
        for (int words = 1; words <= 6; words++) {
            Check.say(x, "b");
            due += words;
            CHECK.is("33: word " + words, x.found(), due);
        }
        CHECK.is("33: the first is set", set(x, 0, "c"), 27);
        CHECK.is("33: the last is set", set(x, 5, "d"), 33);
        CHECK.is("33: one between is set", set(x, 2, "e"), 45);
        CHECK.is("33: the same word is set", set(x, 2, "e"), 57);
        CHECK.is("33: the last is taken out", remove(x, 5), 57);
        CHECK.is("33: the first is taken out", remove(x, 0), 57);
        CHECK.is("33: the second of four is taken out", remove(x, 1), 59);
        CHECK.is("33: one at the beginning", put(x, 0, "f"), 63);
        CHECK.is("33: one at the end", put(x, 4, "f"), 68);
        CHECK.is("33: one between", put(x, 2, "f"), 68 + 21 - 3 - 6);
        CHECK.is("33: an unknown one is looked for once", set(x, 0, "q"), 86);
        CHECK.is("33: the last is taken out again", remove(x, 5), 86);
        CHECK.is("33: what has no items is not looked for again", put(x, 5, "b"), 92);
        CHECK.is("37: behind all of it", x.isSound(), true);
        x.begin(0);
        CHECK.is("33: begin finds nothing", x.found(), 92);
        CHECK.is("33: nothing is left behind begin", put(x, 0, "b"), 93);
        CHECK.is("33: the only one is taken out", remove(x, 0), 93);
        CHECK.is("33: and put in again", put(x, 0, "b"), 94);
    }

    /** What an edit at each place of a sentence of each length takes away, and what moves along. */
    private static void foundByEachEdit() {
        for (int words = 0; words <= 6; words++) {
            for (int index = 0; index <= words; index++) {
                int ahead = index;
                int behind = words - index;
                String name = index + " of " + words;
                if (words < 6) {
                    PhraseFerry x = saying(words);
                    int before = x.found();
                    CHECK.is("33: put in at " + name, put(x, index, "f") - before, (ahead + 1) * (behind + 1));
                    CHECK.is("33: order behind putting in at " + name, order(x),
                            "bcdefg".substring(0, index) + "f" + "bcdefg".substring(index, words));
                }
                if (index < words) {
                    PhraseFerry x = saying(words);
                    int before = x.found();
                    CHECK.is("33: set at " + name, set(x, index, "f") - before, (ahead + 1) * behind);
                    CHECK.is("33: order behind setting at " + name, order(x),
                            "bcdefg".substring(0, index) + "f" + "bcdefg".substring(index + 1, words));
                    PhraseFerry y = saying(words);
                    before = y.found();
                    CHECK.is("33: taken out at " + name, remove(y, index) - before, ahead * (behind - 1));
                    CHECK.is("33: order behind taking out at " + name, order(y),
                            "bcdefg".substring(0, index) + "bcdefg".substring(index + 1, words));
                }
            }
        }
    }

    private static PhraseFerry saying(int words) {
        PhraseFerry x = told();
        Check.stem(x, 0, "g", 'A', 6, 0);
        for (int i = 0; i < words; i++) {
            Check.say(x, "bcdefg".substring(i, i + 1));
        }
        return x;
    }

    /** The words as all of the stretches tell them: each is the first word with the rest as its only part. */
    private static String order(PhraseFerry x) {
        StringBuilder out = new StringBuilder();
        String[] ahead = new String[7];
        for (int from = x.words() - 1; from >= 0; from--) {
            String first = Check.meaning(x, from, from + 1, 'A');
            out.append((char) ('a' + Integer.parseInt(first)));
            for (int to = x.words(); to > from + 1; to--) {
                ahead[to] = first + "(1:" + ahead[to] + ")";
                if (!ahead[to].equals(Check.meaning(x, from, to, 'A'))) {
                    return "another meaning from " + from + " to " + to;
                }
            }
            ahead[from + 1] = first;
        }
        return out.reverse().toString();
    }

    private static void foundByTellings() {
        PhraseFerry x = told();
        Check.say(x, "b c d");
        CHECK.is("33: three words", x.found(), 6);
        Check.stem(x, 0, "z", 'Z', 0, 0);
        CHECK.is("33: a stem", x.found(), 12);
        Check.ending(x, 0, "z", 'Z', 0);
        CHECK.is("33: an ending", x.found(), 18);
        x.addJoint(0, 'z', 'z', '-', '-');
        CHECK.is("33: a joint", x.found(), 24);
        Check.rule(x, 0, "Z=Z*+Z", 0);
        CHECK.is("33: a rule", x.found(), 30);
        x.setRule(0, 2, 0, 0, 0);
        CHECK.is("33: setRule, with the same", x.found(), 36);
        x.begin(1);
        Check.say(x, "b c");
        CHECK.is("33: two words of language 1", x.found(), 39);
        x.setRule(1, 0, 0, 0, 3);
        CHECK.is("33: setRule for it", x.found(), 42);
        Check.stem(x, 0, "y", 'Z', 0, 0);
        CHECK.is("33: a stem of another language", x.found(), 42);
    }

    private static void foundByNothing() {
        PhraseFerry x = told();
        Check.say(x, "b c d");
        Check.stem(x, 1, "z", 'Z', 0, 0);
        Check.ending(x, 1, "z", 'Z', 0);
        x.addJoint(1, 'z', 'z', '-', '-');
        Check.rule(x, 1, "Z=Z*+Z", 0);
        x.setRule(1, 0, 0, 0, 1);
        CHECK.is("33: nothing for another language", x.found(), 6);
        x.addTransfer(0, 1, -1, 1);
        x.turnRole(0, 1, 2);
        CHECK.is("33: nothing for transfers and roles", x.found(), 6);
        CHECK.fails("8: no rule", IndexOutOfBoundsException.class, () -> x.setRule(0, 2, 0, 0, 0));
        CHECK.fails("4: no letters", IllegalArgumentException.class, () -> x.addStem(0, 'A', 0, 0, true));
        CHECK.fails("15: no letters", IllegalArgumentException.class, () -> x.setWord(0));
        CHECK.is("33: nothing for a throw", x.found(), 6);
        x.items(0, 3);
        x.writeMeaning(0, 3, 'S');
        x.isSound();
        x.translate();
        CHECK.is("33: nothing for questions", x.found(), 6);
    }

    private static void translations() {
        PhraseFerry x = told();
        CHECK.is("34: none", x.translations(), 0);
        CHECK.fails("35: none", ArithmeticException.class, x::wholeShare);
        CHECK.fails("36: none", ArithmeticException.class, x::meanPieces);
        for (int meaning = 1; meaning <= 4; meaning++) {
            x.addTransfer(0, meaning, -1, meaning);
        }
        Check.say(x, "b c d");
        x.translate();
        CHECK.is("34: one", x.translations(), 1);
        CHECK.is("35: all", x.wholeShare(), 1f);
        CHECK.is("36: one piece", x.meanPieces(), 1.0);
        set(x, 1, "f");
        x.translate();
        CHECK.is("27: three pieces", x.pieces(), 3);
        CHECK.is("34: two", x.translations(), 2);
        CHECK.is("35: half of them", x.wholeShare(), 0.5f);
        CHECK.is("36: (1 + 3) / 2", x.meanPieces(), 2.0);
        remove(x, 2);
        x.translate();
        CHECK.is("27: two pieces", x.pieces(), 2);
        x.begin(0);
        CHECK.fails("25: no words", IllegalStateException.class, x::translate);
        Check.say(x, "q q q q q");
        x.translate();
        set(x, 0, "b");
        x.translate();
        Check.say(x, "b");
        x.translate();
        CHECK.is("34: six", x.translations(), 6);
        CHECK.is("35: one of six", x.wholeShare(), 1f / 6f);
        CHECK.is("36: (1 + 3 + 2 + 5 + 5 + 6) / 6", x.meanPieces(), 22.0 / 6.0);
    }

    private static void soundness() {
        PhraseFerry x = told();
        CHECK.is("37: without words", x.isSound(), true);
        for (int i = 0; i < 60; i++) {
            int words = x.words();
            switch (i * 7 % 5) {
                case 0, 1 -> {
                    if (words < 6) {
                        put(x, i % (words + 1), "" + (char) ('a' + i % 7));
                    }
                }
                case 2 -> set(x, i % words, "" + (char) ('a' + i % 6));
                case 3 -> {
                    if (words > 2) {
                        remove(x, i % words);
                    }
                }
                default -> x.setRule(0, i % 2, i % 8, 0, i % 10);
            }
            CHECK.is("37: edit " + i, x.isSound(), true);
        }
    }

    /** No call spoils a chart, so that it is done here by hand: an item less, other readings, another weight. */
    private static void spoiltCharts() {
        String[] names = {"present", "counts", "best"};
        for (String name : names) {
            for (int stretch = 0; stretch < 6; stretch++) {
                PhraseFerry x = told();
                Check.say(x, "b c d");
                long[] row = rowOfChart(x, stretch, name);
                CHECK.is("37: sound at first", x.isSound(), true);
                long kept = row[0];
                row[0] = name.equals("best") ? kept + (1L << 40) : kept ^ 1;
                CHECK.is("37: other " + name + " of stretch " + stretch, x.isSound(), false);
                row[0] = kept;
                CHECK.is("37: mended", x.isSound(), true);
            }
        }
    }

    private static long[] rowOfChart(PhraseFerry x, int stretch, String name) {
        try {
            Object chart = valueOf(x, "chart");
            return (long[]) valueOf(((Object[]) valueOf(chart, "stretches"))[stretch], name);
        } catch (ReflectiveOperationException e) {
            throw new IllegalStateException("the chart is held in another way now", e);
        }
    }

    private static Object valueOf(Object holder, String name) throws ReflectiveOperationException {
        Field field = holder.getClass().getDeclaredField(name);
        field.setAccessible(true);
        return field.get(holder);
    }
}
