import java.util.NoSuchElementException;

/** Promises 1 to 3: a new object, type and clear. */
public final class LettersTest {
    private static final Check CHECK = new Check("LettersTest");

    public static void main(String[] args) {
        newObject();
        type();
        clear();
        whoTakesLetters();
        CHECK.end();
    }

    private static void newObject() {
        PhraseFerry x = new PhraseFerry();
        CHECK.is("1: words", x.words(), 0);
        CHECK.is("1: found", x.found(), 0);
        CHECK.is("1: translations", x.translations(), 0);
        CHECK.is("1: pieces", x.pieces(), 0);
        CHECK.is("1: copied", x.copied(), 0);
        CHECK.is("1: reasons", x.reasons(), 0);
        CHECK.is("1: isSound", x.isSound(), true);
        CHECK.fails("1: nothing is written", IndexOutOfBoundsException.class, () -> x.charAt(0));
        CHECK.fails("1: nothing can be transferred", NoSuchElementException.class, x::writeTransferred);
        CHECK.fails("1: nothing can be translated", IllegalStateException.class, x::translate);
        CHECK.fails("1: nothing can be read back", IllegalStateException.class, x::back);
        CHECK.fails("1: no share", ArithmeticException.class, x::wholeShare);
        CHECK.fails("1: no mean", ArithmeticException.class, x::meanPieces);
        CHECK.fails("1: no reason", IndexOutOfBoundsException.class, () -> x.reason(0));
        CHECK.fails("1: no meaning of a reason", IndexOutOfBoundsException.class, () -> x.reasonMeaning(0));
        CHECK.fails("1: no word", IndexOutOfBoundsException.class, () -> x.analyses(0));
        CHECK.is("1: the buffer is empty", x.clear(), 0);
        CHECK.is("1: the sentence is empty", x.begin(0), 0);
        newLanguages();
        PhraseFerry y = new PhraseFerry();
        Check.ending(y, 0, "", 'N', 0);
        Check.stem(y, 0, "a", 'N', 0, 0);
        Check.say(y, "a");
        CHECK.is("1: the sentence is of language 0", y.analyses(0), 1);
    }

    /** Each of them has nothing so far, whatever the other one was told. */
    private static void newLanguages() {
        PhraseFerry x = new PhraseFerry();
        for (int language = 0; language < 2; language++) {
            int asked = language;
            CHECK.fails("1: no stems", IndexOutOfBoundsException.class, () -> x.write(asked, 0, 0));
            CHECK.fails("1: no rules", IndexOutOfBoundsException.class, () -> x.setRule(asked, 0, 0, 0, 0));
            CHECK.is("1: the first joint", x.addJoint(language, 'a', 'b', 'c', 'd'), 1);
            CHECK.is("1: the first rule", Check.rule(x, language, "S=N+V*", 1), 0);
            CHECK.is("1: its weight", x.setRule(language, 0, 7, 3, 9), 0);
            CHECK.is("1: the first transfer", x.addTransfer(language, 0, -1, 0), 1);
            CHECK.is("1: the first ending", x.addEnding(language, 'N', 0), 0);
            CHECK.fails("1: still no stems", IndexOutOfBoundsException.class, () -> x.write(asked, 0, 0));
            CHECK.is("1: the first stem", Check.stem(x, language, "a", 'N', 0, 0), 0);
            CHECK.is("1: its form", Check.form(x, language, 0, 0), "a");
        }
    }

    private static void type() {
        PhraseFerry x = new PhraseFerry();
        CHECK.is("2: a", x.type('a'), 1);
        CHECK.is("2: z", x.type('z'), 2);
        for (char wrong : new char[] {'`', '{', 'A', 'Z', '-', ' ', 0, 255, 0xffff}) {
            CHECK.fails("2: " + (int) wrong, IllegalArgumentException.class, () -> x.type(wrong));
        }
        for (int i = 3; i <= 40; i++) {
            CHECK.is("2: letter " + i, x.type('m'), i);
        }
        CHECK.fails("2: the 41st", IllegalStateException.class, () -> x.type('m'));
        CHECK.fails("2: no letter comes first", IllegalArgumentException.class, () -> x.type('M'));
        CHECK.is("2: a throw changes nothing", x.clear(), 40);
    }

    private static void clear() {
        PhraseFerry x = new PhraseFerry();
        CHECK.is("3: empty", x.clear(), 0);
        Check.type(x, "abc");
        CHECK.is("3: three", x.clear(), 3);
        CHECK.is("3: empty again", x.clear(), 0);
        CHECK.is("3: begins anew", x.type('b'), 1);
    }

    private static void whoTakesLetters() {
        PhraseFerry x = new PhraseFerry();
        Check.type(x, "ab");
        x.addJoint(0, 'a', 'b', 'c', 'd');
        Check.rule(x, 0, "S=N+V*", 1);
        x.begin(0);
        CHECK.is("letters: not taken by joints, rules and begin", x.type('c'), 3);
        x.addStem(0, 'N', 0, 0, false);
        CHECK.is("letters: taken by a stem", x.type('s'), 1);
        x.addEnding(0, 'N', 0);
        CHECK.is("letters: taken by an ending", x.type('s'), 1);
        x.addWord();
        CHECK.is("letters: taken by a word", x.type('s'), 1);
        x.insertWord(0);
        CHECK.is("letters: taken by one put in", x.type('s'), 1);
        x.setWord(0);
        CHECK.is("letters: taken by one set", x.clear(), 0);
    }
}
