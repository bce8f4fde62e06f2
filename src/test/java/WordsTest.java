import java.util.NoSuchElementException;

/** Promises 4 to 6 and 11: stems, endings, joints and forms. */
public final class WordsTest {
    private static final Check CHECK = new Check("WordsTest");

    public static void main(String[] args) {
        stems();
        endings();
        joints();
        joined();
        marked();
        write();
        CHECK.end();
    }

    private static void stems() {
        PhraseFerry x = new PhraseFerry();
        CHECK.is("4: the first", Check.stem(x, 0, "a", 'A', 0, 0), 0);
        CHECK.is("4: the longest", Check.stem(x, 0, "abcdefgh", 'Z', 59, 63), 1);
        CHECK.is("4: of another language", Check.stem(x, 1, "a", 'A', 0, 0), 0);
        CHECK.fails("4: no letters", IllegalArgumentException.class, () -> x.addStem(0, 'A', 0, 0, true));
        Check.type(x, "abcdefghi");
        CHECK.fails("4: 9 letters", IllegalArgumentException.class, () -> x.addStem(0, 'A', 0, 0, true));
        CHECK.is("4: a throw leaves the letters", x.clear(), 9);
        x.type('b');
        for (int wrong : new int[] {-1, 2, Integer.MIN_VALUE, Integer.MAX_VALUE}) {
            CHECK.fails("4: language " + wrong, IndexOutOfBoundsException.class,
                    () -> x.addStem(wrong, 'A', 0, 0, true));
            CHECK.fails("4: the language comes first", IndexOutOfBoundsException.class,
                    () -> x.addStem(wrong, 'a', 0, 0, true));
        }
        for (char wrong : new char[] {'@', '[', 'a', '-', 0, 0xffff}) {
            CHECK.fails("4: category " + (int) wrong, IllegalArgumentException.class,
                    () -> x.addStem(0, wrong, 0, 0, true));
        }
        for (int wrong : new int[] {-1, 60, Integer.MIN_VALUE, Integer.MAX_VALUE}) {
            CHECK.fails("4: meaning " + wrong, IllegalArgumentException.class,
                    () -> x.addStem(0, 'A', wrong, 0, true));
        }
        for (int wrong : new int[] {-1, 64, Integer.MIN_VALUE, Integer.MAX_VALUE}) {
            CHECK.fails("4: features " + wrong, IllegalArgumentException.class,
                    () -> x.addStem(0, 'A', 0, wrong, true));
        }
        CHECK.is("4: the letter stands still", x.addStem(0, 'A', 0, 0, true), 2);
        for (int i = 3; i < 30; i++) {
            CHECK.is("4: stem " + i, Check.stem(x, 0, "a", 'A', 0, 0), i);
        }
        x.type('b');
        CHECK.fails("4: the 31st", IllegalStateException.class, () -> x.addStem(0, 'A', 0, 0, true));
        CHECK.fails("4: arguments come ahead of the limit", IllegalArgumentException.class,
                () -> x.addStem(0, 'A', 60, 0, true));
        CHECK.is("4: the other language has room", x.addStem(1, 'A', 0, 0, true), 1);
        x.clear();
        CHECK.fails("4: letters come ahead of the limit", IllegalArgumentException.class,
                () -> x.addStem(0, 'A', 0, 0, true));
    }

    private static void endings() {
        PhraseFerry x = new PhraseFerry();
        CHECK.is("5: without letters", Check.ending(x, 0, "", 'A', 0), 0);
        CHECK.is("5: the longest", Check.ending(x, 0, "abcd", 'Z', 63), 1);
        CHECK.is("5: of another language", Check.ending(x, 1, "s", 'A', 0), 0);
        Check.type(x, "abcde");
        CHECK.fails("5: 5 letters", IllegalArgumentException.class, () -> x.addEnding(0, 'A', 0));
        CHECK.is("5: a throw leaves the letters", x.clear(), 5);
        CHECK.fails("5: language -1", IndexOutOfBoundsException.class, () -> x.addEnding(-1, '-', 0));
        CHECK.fails("5: language 2", IndexOutOfBoundsException.class, () -> x.addEnding(2, 'A', 0));
        CHECK.fails("5: category @", IllegalArgumentException.class, () -> x.addEnding(0, '@', 0));
        CHECK.fails("5: category [", IllegalArgumentException.class, () -> x.addEnding(0, '[', 0));
        CHECK.fails("5: features -1", IllegalArgumentException.class, () -> x.addEnding(0, 'A', -1));
        CHECK.fails("5: features 64", IllegalArgumentException.class, () -> x.addEnding(0, 'A', 64));
        for (int i = 2; i < 20; i++) {
            CHECK.is("5: ending " + i, x.addEnding(0, 'A', 0), i);
        }
        CHECK.fails("5: the 21st", IllegalStateException.class, () -> x.addEnding(0, 'A', 0));
        CHECK.fails("5: arguments come ahead of the limit", IllegalArgumentException.class,
                () -> x.addEnding(0, 'A', 64));
    }

    private static void joints() {
        PhraseFerry x = new PhraseFerry();
        CHECK.is("6: the first", x.addJoint(0, 'a', 'z', 'b', 'y'), 1);
        CHECK.is("6: with nothing", x.addJoint(0, 'z', 'a', '-', '-'), 2);
        CHECK.is("6: of another language", x.addJoint(1, 'a', 'b', 'c', 'd'), 1);
        CHECK.fails("6: language 2", IndexOutOfBoundsException.class, () -> x.addJoint(2, '-', 'a', 'a', 'a'));
        CHECK.fails("6: language -1", IndexOutOfBoundsException.class, () -> x.addJoint(-1, 'a', 'a', 'a', 'a'));
        for (char wrong : new char[] {'-', '`', '{', 'A', 0}) {
            CHECK.fails("6: last " + wrong, IllegalArgumentException.class, () -> x.addJoint(0, wrong, 'a', 'a', 'a'));
            CHECK.fails("6: first " + wrong, IllegalArgumentException.class, () -> x.addJoint(0, 'a', wrong, 'a', 'a'));
        }
        for (char wrong : new char[] {'`', '{', 'A', '.', ',', 0, 0xffff}) {
            CHECK.fails("6: newLast " + wrong, IllegalArgumentException.class,
                    () -> x.addJoint(0, 'a', 'a', wrong, 'a'));
            CHECK.fails("6: newFirst " + wrong, IllegalArgumentException.class,
                    () -> x.addJoint(0, 'a', 'a', 'a', wrong));
        }
        for (int i = 3; i <= 10; i++) {
            CHECK.is("6: joint " + i, x.addJoint(0, 'a', 'b', 'c', 'd'), i);
        }
        CHECK.fails("6: the 11th", IllegalStateException.class, () -> x.addJoint(0, 'a', 'b', 'c', 'd'));
        CHECK.fails("6: arguments come ahead of the limit", IllegalArgumentException.class,
                () -> x.addJoint(0, 'a', '-', 'c', 'd'));
    }

    private static void joined() {
        PhraseFerry x = new PhraseFerry();
        Check.stem(x, 0, "city", 'N', 0, 0);
        Check.stem(x, 0, "y", 'N', 0, 0);
        Check.ending(x, 0, "", 'N', 0);
        Check.ending(x, 0, "s", 'N', 0);
        Check.ending(x, 0, "sen", 'N', 0);
        CHECK.is("words: without a joint", Check.form(x, 0, 0, 1), "citys");
        x.addJoint(0, 'y', 's', 'i', '-');
        CHECK.is("words: the first letter left out", Check.form(x, 0, 0, 2), "citien");
        CHECK.is("words: an ending without letters has no joint", Check.form(x, 0, 0, 0), "city");
        x.addJoint(0, 'y', 's', 'e', 'e');
        CHECK.is("words: the first joint counts", Check.form(x, 0, 0, 1), "citi");
        x.addJoint(1, 'y', 's', '-', '-');
        Check.stem(x, 1, "city", 'N', 0, 0);
        Check.stem(x, 1, "y", 'N', 0, 0);
        Check.ending(x, 1, "s", 'N', 0);
        Check.ending(x, 1, "so", 'N', 0);
        CHECK.is("words: both left out", Check.form(x, 1, 0, 0), "cit");
        CHECK.is("words: what is left is enough", Check.form(x, 1, 1, 1), "o");
        CHECK.fails("words: no letter is left", NoSuchElementException.class, () -> x.write(1, 1, 0));
        CHECK.is("words: the others stand", Check.form(x, 0, 1, 1), "i");
        Check.stem(x, 0, "aaaaaaaa", 'N', 0, 0);
        Check.ending(x, 0, "zzzz", 'N', 0);
        CHECK.is("words: the longest", Check.form(x, 0, 2, 3), "aaaaaaaazzzz");
        x.addJoint(0, 'a', 'z', '-', 'q');
        CHECK.is("words: the last letter left out", Check.form(x, 0, 2, 3), "aaaaaaaqzzz");
    }

    private static void marked() {
        // An ending fits a stem in each of number, gender and case, or not, as the model says.
        for (int one = 0; one < 64; one++) {
            PhraseFerry x = new PhraseFerry();
            Check.stem(x, 0, "a", 'N', 0, one);
            for (int other = 0; other < 20; other++) {
                int features = (one + other * 3) % 64;
                x.addEnding(0, 'N', features);
                boolean hasForm = true;
                try {
                    x.write(0, 0, other);
                } catch (NoSuchElementException e) {
                    hasForm = false;
                }
                CHECK.is("features: " + one + " fits " + features, hasForm, PlainFerry.join(one, features) >= 0);
            }
        }
    }

    private static void write() {
        PhraseFerry x = new PhraseFerry();
        Check.stem(x, 0, "ab", 'N', 0, 0);
        Check.stem(x, 0, "c", 'V', 0, 16);
        Check.ending(x, 0, "d", 'N', 0);
        Check.ending(x, 0, "e", 'V', 32);
        CHECK.is("11: letters", x.write(0, 0, 0), 3);
        CHECK.is("11: text", Check.written(x), "abd");
        CHECK.fails("11: language -1", IndexOutOfBoundsException.class, () -> x.write(-1, 0, 0));
        CHECK.fails("11: language 2", IndexOutOfBoundsException.class, () -> x.write(2, 0, 0));
        CHECK.fails("11: no stem of the other one", IndexOutOfBoundsException.class, () -> x.write(1, 0, 0));
        CHECK.fails("11: stem -1", IndexOutOfBoundsException.class, () -> x.write(0, -1, 0));
        CHECK.fails("11: stem 2", IndexOutOfBoundsException.class, () -> x.write(0, 2, 0));
        CHECK.fails("11: ending -1", IndexOutOfBoundsException.class, () -> x.write(0, 0, -1));
        CHECK.fails("11: ending 2", IndexOutOfBoundsException.class, () -> x.write(0, 0, 2));
        CHECK.fails("11: a far stem", IndexOutOfBoundsException.class, () -> x.write(0, Integer.MAX_VALUE, 0));
        CHECK.fails("11: another category", NoSuchElementException.class, () -> x.write(0, 0, 1));
        CHECK.fails("11: features that do not fit", NoSuchElementException.class, () -> x.write(0, 1, 1));
        CHECK.is("11: a throw leaves what was written", Check.written(x), "abd");
    }
}
