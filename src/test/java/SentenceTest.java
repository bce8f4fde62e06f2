/** Promises 12 to 18: sentences and their words. */
public final class SentenceTest {
    private static final Check CHECK = new Check("SentenceTest");

    public static void main(String[] args) {
        begin();
        addWord();
        insertWord();
        setWord();
        removeWord();
        analyses();
        CHECK.end();
    }

    private static PhraseFerry told() {
        PhraseFerry x = new PhraseFerry();
        for (int language = 0; language < 2; language++) {
            Check.ending(x, language, "", 'N', 0);
        }
        for (int meaning = 0; meaning < 8; meaning++) {
            Check.stem(x, 0, "" + (char) ('a' + meaning), 'N', meaning, 0);
        }
        Check.stem(x, 1, "a", 'N', 20, 0);
        return x;
    }

    /** The meanings of all words, as each of them alone has just its stem's. */
    private static String meanings(PhraseFerry x) {
        StringBuilder out = new StringBuilder();
        for (int i = 0; i < x.words(); i++) {
            out.append(i > 0 ? " " : "").append(Check.meaning(x, i, i + 1, 'N'));
        }
        return out.toString();
    }

    private static void begin() {
        PhraseFerry x = told();
        CHECK.is("12: nothing before", x.begin(0), 0);
        Check.say(x, "a b");
        CHECK.fails("12: language -1", IndexOutOfBoundsException.class, () -> x.begin(-1));
        CHECK.fails("12: language 2", IndexOutOfBoundsException.class, () -> x.begin(2));
        CHECK.is("12: a throw changes nothing", x.words(), 2);
        CHECK.is("12: two before", x.begin(1), 2);
        CHECK.is("17: none after", x.words(), 0);
        Check.say(x, "a");
        CHECK.is("12: of language 1", meanings(x), "20");
        CHECK.is("12: one before", x.begin(0), 1);
        Check.say(x, "a");
        CHECK.is("12: of language 0", meanings(x), "0");
    }

    private static void addWord() {
        PhraseFerry x = told();
        CHECK.fails("13: no letters", IllegalArgumentException.class, x::addWord);
        for (int i = 1; i <= 6; i++) {
            x.type((char) ('a' + i));
            CHECK.is("13: word " + i, x.addWord(), i);
            CHECK.is("17: word " + i, x.words(), i);
        }
        CHECK.fails("13: no letters come first", IllegalArgumentException.class, x::addWord);
        x.type('a');
        CHECK.fails("13: the 7th", IllegalStateException.class, x::addWord);
        CHECK.is("13: a throw leaves the letters", x.clear(), 1);
        CHECK.is("13: at the end", meanings(x), "1 2 3 4 5 6");
    }

    private static void insertWord() {
        PhraseFerry x = told();
        CHECK.fails("14: no letters", IllegalArgumentException.class, () -> x.insertWord(0));
        CHECK.fails("14: the index comes first", IndexOutOfBoundsException.class, () -> x.insertWord(1));
        x.type('b');
        CHECK.fails("14: index -1", IndexOutOfBoundsException.class, () -> x.insertWord(-1));
        CHECK.fails("14: index 1", IndexOutOfBoundsException.class, () -> x.insertWord(1));
        CHECK.is("14: the first", x.insertWord(0), 1);
        x.type('c');
        CHECK.is("14: at the end", x.insertWord(1), 2);
        x.type('d');
        CHECK.is("14: at the beginning", x.insertWord(0), 3);
        x.type('e');
        CHECK.is("14: between", x.insertWord(1), 4);
        CHECK.is("14: where they are", meanings(x), "3 4 1 2");
        Check.say(x, "f g");
        x.type('a');
        CHECK.fails("14: the 7th", IllegalStateException.class, () -> x.insertWord(0));
        CHECK.fails("14: the index comes ahead of the limit", IndexOutOfBoundsException.class,
                () -> x.insertWord(7));
        x.clear();
        CHECK.fails("14: letters come ahead of the limit", IllegalArgumentException.class, () -> x.insertWord(6));
        CHECK.is("14: a throw changes nothing", meanings(x), "3 4 1 2 5 6");
    }

    private static void setWord() {
        PhraseFerry x = told();
        CHECK.fails("15: no words", IndexOutOfBoundsException.class, () -> x.setWord(0));
        Check.say(x, "a b c");
        CHECK.fails("15: no letters", IllegalArgumentException.class, () -> x.setWord(0));
        CHECK.fails("15: index -1", IndexOutOfBoundsException.class, () -> x.setWord(-1));
        CHECK.fails("15: index 3", IndexOutOfBoundsException.class, () -> x.setWord(3));
        x.type('f');
        CHECK.is("15: its analyses", x.setWord(1), 1);
        CHECK.is("15: where it is", meanings(x), "0 5 2");
        Check.type(x, "zz");
        CHECK.is("15: none", x.setWord(2), 0);
        CHECK.is("15: no items", x.items(2, 3), 0);
        CHECK.is("15: still three", x.words(), 3);
        Check.stem(x, 0, "a", 'V', 30, 0);
        Check.ending(x, 0, "", 'V', 0);
        Check.ending(x, 0, "", 'N', 16);
        x.type('a');
        CHECK.is("15: several", x.setWord(0), 3);
    }

    private static void removeWord() {
        PhraseFerry x = told();
        CHECK.fails("16: no words", IndexOutOfBoundsException.class, () -> x.removeWord(0));
        Check.say(x, "a b c d e f");
        CHECK.fails("16: index -1", IndexOutOfBoundsException.class, () -> x.removeWord(-1));
        CHECK.fails("16: index 6", IndexOutOfBoundsException.class, () -> x.removeWord(6));
        CHECK.is("16: one between", x.removeWord(2), 5);
        CHECK.is("16: what is left", meanings(x), "0 1 3 4 5");
        CHECK.is("16: the last", x.removeWord(4), 4);
        CHECK.is("16: the first", x.removeWord(0), 3);
        CHECK.is("16: what is left", meanings(x), "1 3 4");
        CHECK.is("16: two more", x.removeWord(1) + x.removeWord(1), 3);
        CHECK.is("16: the only one", x.removeWord(0), 0);
        CHECK.is("17: none", x.words(), 0);
    }

    private static void analyses() {
        PhraseFerry x = new PhraseFerry();
        Check.say(x, "ab abc");
        CHECK.is("18: none", x.analyses(0), 0);
        Check.stem(x, 0, "ab", 'N', 0, 0);
        Check.ending(x, 0, "", 'N', 0);
        CHECK.is("18: a stem alone", x.analyses(0), 1);
        Check.stem(x, 0, "a", 'N', 1, 0);
        Check.ending(x, 0, "b", 'N', 0);
        CHECK.is("18: taken apart in two ways", x.analyses(0), 2);
        CHECK.is("18: not another word", x.analyses(1), 0);
        Check.ending(x, 0, "bc", 'N', 0);
        Check.ending(x, 0, "c", 'V', 0);
        CHECK.is("18: only of its category", x.analyses(1), 1);
        x.addJoint(0, 'b', 'b', 'b', 'c');
        CHECK.is("18: with a joint", x.analyses(1), 2);
        CHECK.fails("18: index -1", IndexOutOfBoundsException.class, () -> x.analyses(-1));
        CHECK.fails("18: index 2", IndexOutOfBoundsException.class, () -> x.analyses(2));
        x.begin(0);
        CHECK.fails("18: no words", IndexOutOfBoundsException.class, () -> x.analyses(0));
        Check.say(x, "abbbbbbbbbbbb abbbbbbbbbbbbbbbbbbbbbbbbbbbbbbbbbbbbbbb");
        CHECK.is("18: longer than forms", x.analyses(0) + x.analyses(1), 0);
        Check.stem(x, 0, "abbbbbbb", 'N', 0, 0);
        Check.ending(x, 0, "dddd", 'N', 0);
        x.begin(0);
        Check.say(x, "abbbbbbbdddd abbbbbbbddddd");
        CHECK.is("18: as long as a form", x.analyses(0), 1);
        CHECK.is("18: one longer than it", x.analyses(1), 0);
    }
}
