import java.util.List;
import java.util.NoSuchElementException;

/** Promises 25 to 28 and 32: translations as a whole and in pieces, and reading them back. */
public final class TranslateTest {
    private static final Check CHECK = new Check("TranslateTest");

    public static void main(String[] args) {
        whole();
        numbers();
        leastOfMade();
        leastOfBothSides();
        whatRulesAskFor();
        refusedJoins();
        partsInAnyOrder();
        contexts();
        roles();
        pieces();
        fewestCopies();
        leastWeights();
        longestPieces();
        bestItemsOfPieces();
        madePieces();
        longWords();
        wrong();
        back();
        CHECK.end();
    }

    /** Two languages of nouns, counted, and verbs: the first one is subject, verb, object. */
    static PhraseFerry nounsAndVerbs() {
        PhraseFerry x = new PhraseFerry();
        Check.ending(x, 0, "", 'N', 16);
        Check.ending(x, 0, "s", 'N', 32);
        Check.ending(x, 0, "", 'V', 0);
        Check.counted(x, 0, "cat", 'N', 1, 0);
        Check.stem(x, 0, "see", 'V', 2, 0);
        Check.rule(x, 0, "P=V*+N", 1);
        Check.rule(x, 0, "S=N+P*", 0);
        Check.ending(x, 1, "", 'N', 16 + 1);
        Check.ending(x, 1, "n", 'N', 16 + 2);
        Check.ending(x, 1, "e", 'N', 32 + 1);
        Check.ending(x, 1, "en", 'N', 32 + 2);
        Check.ending(x, 1, "", 'V', 0);
        Check.counted(x, 1, "kat", 'N', 21, 0);
        Check.stem(x, 1, "zie", 'V', 22, 0);
        Check.rule(x, 1, "P=N+V*", 1, 0, 2, 0);
        Check.rule(x, 1, "S=N+P*", 0, 0, 1, 0);
        x.addTransfer(0, 1, -1, 21);
        x.addTransfer(0, 2, -1, 22);
        return x;
    }

    /** A language of the letters, each of a category of its own, with meanings from 1. */
    private static void letters(PhraseFerry x, int language, String letters, String categories) {
        for (int i = 0; i < letters.length(); i++) {
            Check.ending(x, language, "", categories.charAt(i), 0);
            Check.stem(x, language, letters.substring(i, i + 1), categories.charAt(i), i + 1, 0);
        }
    }

    /** The words a, b, c, d become w, x, y, z. */
    private static PhraseFerry fourLetters() {
        PhraseFerry x = new PhraseFerry();
        letters(x, 0, "abcd", "ABCD");
        letters(x, 1, "wxyz", "ABCD");
        return x;
    }

    private static void transferAll(PhraseFerry x, int count) {
        for (int meaning = 1; meaning <= count; meaning++) {
            x.addTransfer(0, meaning, -1, meaning);
        }
    }

    private static String transferred(PhraseFerry x) {
        int length = x.writeTransferred();
        String text = Check.written(x);
        return length == text.length() ? text : "length " + length + " of " + text;
    }

    private static void whole() {
        PhraseFerry x = nounsAndVerbs();
        Check.say(x, "cats see cat");
        CHECK.is("25: order, numbers and cases", Check.translated(x), "w kate katn zie");
        CHECK.is("27: a whole", x.pieces(), 1);
        CHECK.is("28: a whole", x.copied(), 0);
        CHECK.is("29: a whole", x.reasons(), 0);
        CHECK.is("26: with numbers", transferred(x), "22(0:21.2,1:21.1)");
        CHECK.is("32: equal", x.back(), 'e');
        CHECK.is("32: back writes nothing", Check.written(x), "22(0:21.2,1:21.1)");
        x.begin(1);
        Check.say(x, "kat katen zie");
        CHECK.is("25: no transfers", Check.translated(x), "p *kat *katen *zie");
        x.addTransfer(1, 21, -1, 1);
        x.addTransfer(1, 22, -1, 2);
        CHECK.is("25: into language 0", Check.translated(x), "w cat see cats");
        CHECK.is("32: read in language 0", x.back(), 'e');
    }

    private static void numbers() {
        PhraseFerry x = new PhraseFerry();
        Check.ending(x, 0, "", 'S', 0);
        Check.counted(x, 0, "one", 'S', 1, 16);
        Check.counted(x, 0, "many", 'S', 1, 48);
        Check.counted(x, 0, "any", 'S', 1, 0);
        Check.stem(x, 0, "none", 'S', 1, 48);
        Check.ending(x, 1, "c", 'S', 16);
        Check.ending(x, 1, "b", 'S', 48);
        Check.ending(x, 1, "d", 'S', 0);
        Check.counted(x, 1, "m", 'S', 1, 0);
        x.addTransfer(0, 1, -1, 1);
        String[][] due = {{"one", "w mc", "1.1"}, {"many", "w mb", "1.3"}, {"any", "w mb", "1"}, {"none", "w mb", "1"}};
        for (String[] row : due) {
            x.begin(0);
            Check.say(x, row[0]);
            CHECK.is("25: the number of " + row[0], Check.translated(x), row[1]);
            CHECK.is("26: the number of " + row[0], transferred(x), row[2]);
        }
        Check.stem(x, 1, "aa", 'S', 1, 0);
        x.begin(0);
        Check.say(x, "one");
        CHECK.is("25: a stem that is not counted has any number", Check.translated(x), "w aab");
    }

    private static void leastOfMade() {
        PhraseFerry x = new PhraseFerry();
        letters(x, 0, "a", "S");
        transferAll(x, 1);
        for (char category : "NMS".toCharArray()) {
            Check.ending(x, 1, "", category, 0);
        }
        Check.stem(x, 1, "b", 'N', 1, 0);
        Check.stem(x, 1, "a", 'N', 1, 0);
        Check.stem(x, 1, "z", 'M', 1, 0);
        Check.stem(x, 1, "ab", 'N', 1, 0);
        Check.rule(x, 1, "S=N", 0, 0, 0, 3);
        Check.rule(x, 1, "S=M", 0, 0, 0, 4);
        Check.say(x, "a");
        CHECK.is("25: the least text", Check.translated(x), "w a");
        x.setRule(1, 1, 0, 0, 2);
        CHECK.is("25: the least weight comes first", Check.translated(x), "w z");
        Check.stem(x, 1, "zz", 'S', 1, 0);
        CHECK.is("25: a form weighs nothing", Check.translated(x), "w zz");
        PhraseFerry y = new PhraseFerry();
        letters(y, 0, "av", "NV");
        Check.rule(y, 0, "S=N+V*", 0);
        transferAll(y, 2);
        letters(y, 1, "bv", "NV");
        Check.stem(y, 1, "bb", 'N', 1, 0);
        Check.stem(y, 1, "a", 'V', 2, 0);
        Check.rule(y, 1, "S=N+V*", 0);
        Check.rule(y, 1, "S=V*+N", 0);
        Check.say(y, "a v");
        CHECK.is("25: the least text of two words", Check.translated(y), "w a b");
        y.setRule(1, 1, 0, 0, 1);
        CHECK.is("25: a blank is ahead of letters", Check.translated(y), "w b a");
    }

    /** The weights of both sides of a rule are added, be the head on the left or on the right. */
    private static void leastOfBothSides() {
        for (String shape : new String[] {"S=N+V*", "S=N*+V"}) {
            PhraseFerry x = new PhraseFerry();
            letters(x, 0, "nv", "NV");
            letters(x, 1, "nv", "AA");
            Check.rule(x, 0, shape, 0);
            transferAll(x, 2);
            Check.ending(x, 1, "", 'B', 1);
            Check.stem(x, 1, "a", 'B', 1, 0);
            Check.stem(x, 1, "z", 'B', 2, 0);
            int cheapLeft = Check.rule(x, 1, "N=A", 0, 0, 0, 4);
            int dearLeft = Check.rule(x, 1, "N=B", 0, 0, 0, 5);
            int cheapRight = Check.rule(x, 1, "V=A", 0, 0, 0, 6);
            int dearRight = Check.rule(x, 1, "V=B", 0, 0, 0, 7);
            Check.rule(x, 1, shape, 0, 0, 0, 2);
            Check.say(x, "n v");
            CHECK.is("25: both are the least, " + shape, Check.translated(x), "w n v");
            x.setRule(1, dearRight, 0, 0, 5);
            CHECK.is("25: another one on the right, " + shape, Check.translated(x), "w n z");
            x.setRule(1, dearLeft, 0, 0, 4);
            CHECK.is("25: the least text on the left, " + shape, Check.translated(x), "w a z");
            x.setRule(1, cheapLeft, 0, 0, 3);
            x.setRule(1, cheapRight, 0, 0, 5);
            CHECK.is("25: the least text on the right, " + shape, Check.translated(x), "w n v");
        }
    }

    /** In making, rules ask for the same as in reading. */
    private static void whatRulesAskFor() {
        int[][] rows = {{16, 32, 0, 0, 1}, {16, 32, 1, 0, 0}, {16, 16, 1, 0, 1}, {16, 0, 1, 0, 1}, {4, 8, 2, 0, 0},
            {4, 8, 5, 0, 1}, {1, 2, 4, 0, 0}, {1, 2, 3, 0, 1}, {1, 0, 0, 2, 0}, {2, 0, 0, 2, 1}, {0, 1, 0, 2, 1},
            {0, 1, 4, 2, 0}, {0, 2, 4, 2, 1}, {0, 0, 7, 3, 1}, {63, 63, 7, 3, 1}, {63, 63, 7, 1, 0}};
        for (int[] row : rows) {
            PhraseFerry x = new PhraseFerry();
            letters(x, 0, "nv", "NV");
            Check.rule(x, 0, "S=N+V*", 0);
            transferAll(x, 2);
            x.addEnding(1, 'N', 0);
            x.addEnding(1, 'V', 0);
            Check.stem(x, 1, "n", 'N', 1, row[0]);
            Check.stem(x, 1, "v", 'V', 2, row[1]);
            Check.rule(x, 1, "S=N+V*", 0, row[2], row[3], 0);
            Check.say(x, "n v");
            String name = row[0] + " and " + row[1] + ", fit " + row[2] + ", case " + row[3];
            CHECK.is("25: " + name, Check.translated(x), (row[4] == 1 ? "w" : "p") + " n v");
            CHECK.is("30: " + name, Check.reasons(x), row[4] == 1 ? List.of() : List.of("f2"));
        }
        for (int features = 0; features < 4; features++) {
            for (int govern = 0; govern < 4; govern++) {
                PhraseFerry x = new PhraseFerry();
                letters(x, 0, "n", "S");
                transferAll(x, 1);
                x.addEnding(1, 'N', 0);
                Check.stem(x, 1, "n", 'N', 1, 60 + features);
                Check.rule(x, 1, "S=N", 0, 0, govern, 0);
                Check.say(x, "n");
                boolean isRight = features == 0 || govern == 0 || features == govern;
                CHECK.is("25: of one, the case " + govern + " of " + features, Check.translated(x),
                        isRight ? "w n" : "p n");
                CHECK.is("30: of one, the case " + govern + " of " + features, Check.reasons(x),
                        isRight ? List.of() : List.of("s1"));
            }
        }
    }

    private static void partsInAnyOrder() {
        PhraseFerry x = new PhraseFerry();
        letters(x, 0, "abcv", "ABCV");
        Check.rule(x, 0, "V=V*+A", 0);
        Check.rule(x, 0, "V=V*+B", 1);
        Check.rule(x, 0, "S=V*+C", 2);
        transferAll(x, 4);
        letters(x, 1, "abcv", "ABCV");
        Check.rule(x, 1, "T=V*+C", 2);
        Check.rule(x, 1, "U=T*+A", 0);
        Check.rule(x, 1, "S=U*+B", 1);
        Check.say(x, "v a b c");
        CHECK.is("25: parts in the order of the other language", Check.translated(x), "w v c a b");
        CHECK.is("26: the tree", transferred(x), "4(0:1,1:2,2:3)");
        x.begin(0);
        Check.say(x, "v a a c");
        CHECK.is("25: the same part twice, without a rule for the second", Check.translated(x), "p v a a c");
    }

    private static void contexts() {
        PhraseFerry x = new PhraseFerry();
        letters(x, 0, "avw", "NVV");
        Check.rule(x, 0, "S=N+V*", 0);
        Check.rule(x, 0, "S=N", 0);
        x.addTransfer(0, 1, -1, 11);
        x.addTransfer(0, 1, -1, 12);
        x.addTransfer(0, 1, 2, 13);
        x.addTransfer(0, 1, 2, 14);
        x.addTransfer(0, 2, -1, 20);
        x.addTransfer(0, 3, 1, 21);
        x.addTransfer(0, 3, -1, 22);
        Check.say(x, "a v");
        CHECK.is("26: with its context", transferred(x), "20(0:13)");
        x.begin(0);
        Check.say(x, "a w");
        CHECK.is("26: with another one", transferred(x), "22(0:11)");
        x.begin(0);
        Check.say(x, "a");
        CHECK.is("26: without", transferred(x), "11");
    }

    private static void roles() {
        PhraseFerry x = nounsAndVerbs();
        Check.say(x, "cats see cat");
        x.turnRole(0, 0, 1);
        x.turnRole(0, 1, 0);
        CHECK.is("26: roles become others", transferred(x), "22(0:21.1,1:21.2)");
        CHECK.is("25: roles become others", Check.translated(x), "w kat katen zie");
        x.turnRole(1, 0, 5);
        CHECK.is("26: those of the other language are its own", transferred(x), "22(0:21.1,1:21.2)");
        x.turnRole(0, 0, 7);
        x.turnRole(0, 1, 7);
        CHECK.is("26: parts sorted anew, by their texts", transferred(x), "22(7:21.1,7:21.2)");
    }

    private static void pieces() {
        PhraseFerry x = fourLetters();
        Check.say(x, "a b");
        CHECK.is("25: no transfers", Check.translated(x), "p *a *b");
        CHECK.is("27: copied words are pieces", x.pieces(), 2);
        CHECK.is("28: two", x.copied(), 2);
        transferAll(x, 4);
        CHECK.is("25: word by word", Check.translated(x), "p w x");
        CHECK.is("27: two", x.pieces(), 2);
        CHECK.is("28: none", x.copied(), 0);
        Check.rule(x, 0, "P=A*+B", 0, 0, 0, 9);
        Check.rule(x, 1, "Q=B+A*", 0, 0, 0, 9);
        CHECK.is("25: the fewest pieces", Check.translated(x), "p x w");
        CHECK.is("27: one that is no whole", x.pieces(), 1);
        CHECK.is("29: there is a reason", Check.reasons(x), List.of("g-1"));
        Check.type(x, "unknown");
        x.insertWord(1);
        CHECK.is("25: an unknown word", Check.translated(x), "p w *unknown x");
        CHECK.is("27: three", x.pieces(), 3);
        CHECK.is("28: one", x.copied(), 1);
        x.begin(1);
        CHECK.is("27: of the last translation", x.pieces(), 3);
        CHECK.is("28: of the last translation", x.copied(), 1);
    }

    /** The meaning of d has a transfer below that of c alone. */
    private static void fewestCopies() {
        PhraseFerry x = fourLetters();
        transferAll(x, 3);
        x.addTransfer(0, 4, 3, 4);
        for (int language = 0; language < 2; language++) {
            Check.rule(x, language, "P=A*+B", 0);
            Check.rule(x, language, "R=P*+C", 1);
        }
        Check.say(x, "a b c d");
        CHECK.is("25: a piece of three words and a copied one", Check.translated(x), "p w x y *d");
        CHECK.is("27: two", x.pieces(), 2);
        CHECK.is("28: one", x.copied(), 1);
        for (int language = 0; language < 2; language++) {
            Check.rule(x, language, "Q=C*+D", 0);
        }
        CHECK.is("25: two pieces without a copy", Check.translated(x), "p w x y z");
        CHECK.is("27: still two", x.pieces(), 2);
        CHECK.is("28: none", x.copied(), 0);
        x.setRule(0, 0, 0, 0, 9);
        x.setRule(0, 2, 0, 0, 9);
        CHECK.is("28: whatever they weigh", Check.translated(x) + " " + x.copied(), "p w x y z 0");
        morePiecesFewerCopies();
    }

    /** "a b c" is a piece and d is copied, but a, b, "c d" are three pieces without a copy. */
    private static void morePiecesFewerCopies() {
        PhraseFerry x = fourLetters();
        transferAll(x, 3);
        x.addTransfer(0, 4, 3, 4);
        Check.rule(x, 0, "P=B*+C", 0);
        Check.rule(x, 0, "R=A*+P", 0);
        Check.rule(x, 1, "P=B*+C", 0);
        Check.rule(x, 1, "R=P+A*", 0);
        Check.say(x, "a b c d");
        CHECK.is("25: the whole of a b c", Check.translated(x), "p x y w *d");
        CHECK.is("27: two", x.pieces(), 2);
        Check.rule(x, 0, "Q=C*+D", 0);
        Check.rule(x, 1, "Q=D+C*", 0);
        CHECK.is("25: the fewest copies come first", Check.translated(x), "p w x z y");
        CHECK.is("27: three", x.pieces(), 3);
        CHECK.is("28: none", x.copied(), 0);
    }

    private static PhraseFerry overlapping(int weightOfFirst, int weightOfSecond) {
        PhraseFerry x = fourLetters();
        transferAll(x, 4);
        Check.rule(x, 0, "P=A*+B", 0, 0, 0, weightOfFirst);
        Check.rule(x, 0, "Q=B*+C", 0, 0, 0, weightOfSecond);
        Check.rule(x, 1, "P=B+A*", 0);
        Check.rule(x, 1, "Q=C+B*", 0);
        return x;
    }

    private static void leastWeights() {
        PhraseFerry x = overlapping(3, 2);
        Check.say(x, "a b c");
        CHECK.is("25: the least weights", Check.translated(x), "p w y x");
        x.setRule(0, 0, 0, 0, 1);
        CHECK.is("25: the least weights, the other ones", Check.translated(x), "p x w y");
        x.setRule(1, 0, 0, 0, 9);
        CHECK.is("25: those of the items that are read", Check.translated(x), "p x w y");
    }

    private static void longestPieces() {
        PhraseFerry x = overlapping(2, 2);
        Check.say(x, "a b c");
        CHECK.is("25: the longest first piece", Check.translated(x), "p x w y");
        Check.type(x, "d");
        x.insertWord(0);
        CHECK.is("25: the longest second piece", Check.translated(x), "p z x w y");
        Check.type(x, "q");
        x.setWord(0);
        CHECK.is("25: behind a copied word", Check.translated(x), "p *q x w y");
    }

    private static void bestItemsOfPieces() {
        PhraseFerry x = new PhraseFerry();
        letters(x, 0, "aa", "AB");
        letters(x, 1, "xy", "AB");
        x.addTransfer(0, 2, -1, 2);
        Check.say(x, "a");
        CHECK.is("25: only the best item counts", Check.translated(x), "p *a");
        x.addTransfer(0, 1, -1, 1);
        CHECK.is("25: of the lowest category", Check.translated(x), "p x");
        Check.stem(x, 0, "b", 'A', 1, 2);
        Check.stem(x, 0, "b", 'A', 3, 1);
        Check.type(x, "b");
        x.setWord(0);
        CHECK.is("25: of the lowest features, without a transfer", Check.translated(x), "p *b");
        x.addTransfer(0, 3, -1, 2);
        CHECK.is("25: of the lowest features", Check.translated(x), "p y");
        PhraseFerry y = new PhraseFerry();
        letters(y, 0, "ab", "AB");
        Check.stem(y, 0, "c", 'B', 3, 0);
        letters(y, 1, "xyz", "ABC");
        transferAll(y, 3);
        Check.rule(y, 0, "C=A*+B", 0, 0, 0, 2);
        Check.rule(y, 0, "D=A+B*", 0, 0, 0, 1);
        Check.rule(y, 1, "S=A*+B", 0);
        Check.say(y, "a b");
        CHECK.is("25: of the least weight, which can't be made", Check.translated(y), "p x y");
        CHECK.is("27: two pieces", y.pieces(), 2);
        y.setRule(0, 1, 0, 0, 3);
        CHECK.is("27: one piece", Check.translated(y) + " " + y.pieces(), "p x y 1");
    }

    private static void madePieces() {
        PhraseFerry x = new PhraseFerry();
        letters(x, 0, "a", "A");
        transferAll(x, 1);
        for (char category : "BCD".toCharArray()) {
            Check.ending(x, 1, "", category, 0);
        }
        Check.stem(x, 1, "a", 'C', 1, 0);
        Check.stem(x, 1, "z", 'B', 1, 0);
        Check.stem(x, 1, "y", 'B', 1, 63);
        Check.say(x, "a");
        CHECK.is("25: the lowest category, then the least text", Check.translated(x), "p y");
        PhraseFerry y = overlapping(0, 0);
        Check.rule(y, 1, "E=A*+B", 0, 0, 0, 1);
        Check.say(y, "a b");
        CHECK.is("25: the least weight", Check.translated(y), "p x w");
        y.setRule(1, 0, 0, 0, 2);
        CHECK.is("25: the least weight comes ahead of the category", Check.translated(y), "p w x");
        y.setRule(1, 0, 0, 0, 1);
        CHECK.is("25: the same weight", Check.translated(y), "p w x");
        y.setRule(1, 2, 0, 0, 3);
        CHECK.is("25: the other one", Check.translated(y), "p x w");
    }

    /** What a rule refuses is no item, not even of Z, the last category there is. */
    private static void refusedJoins() {
        PhraseFerry x = new PhraseFerry();
        letters(x, 0, "ab", "AB");
        Check.rule(x, 0, "S=A*+B", 1);
        transferAll(x, 2);
        Check.ending(x, 1, "k", 'A', 16);
        Check.stem(x, 1, "y", 'A', 1, 0);
        Check.ending(x, 1, "m", 'B', 32);
        Check.stem(x, 1, "z", 'B', 2, 0);
        Check.rule(x, 1, "A=A*+B", 1, 1, 0, 0);
        Check.rule(x, 1, "S=Z*+B", 1);
        Check.say(x, "a b");
        CHECK.is("25: nothing is made of what was refused", Check.translated(x), "p yk zm");
        CHECK.is("30: no item has all parts", Check.reasons(x), List.of("f1"));
    }

    private static void longWords() {
        PhraseFerry x = new PhraseFerry();
        letters(x, 0, "a", "S");
        Check.rule(x, 0, "S=S*+S", 3);
        transferAll(x, 1);
        Check.ending(x, 1, "dddd", 'S', 0);
        Check.stem(x, 1, "cccccccc", 'S', 1, 0);
        Check.rule(x, 1, "S=S+S*", 3);
        Check.say(x, "a a a a a a");
        String word = "ccccccccdddd";
        CHECK.is("25: six of the longest words", Check.translated(x), "w" + (" " + word).repeat(6));
        CHECK.is("32: their meaning", x.back(), 'd');
    }

    private static void wrong() {
        PhraseFerry x = nounsAndVerbs();
        CHECK.fails("25: no words", IllegalStateException.class, x::translate);
        CHECK.fails("26: no words", NoSuchElementException.class, x::writeTransferred);
        x.write(0, 0, 1);
        Check.say(x, "cat see");
        CHECK.fails("26: no item S", NoSuchElementException.class, x::writeTransferred);
        CHECK.is("26: a throw leaves what was written", Check.written(x), "cats");
        Check.say(x, "cat");
        CHECK.is("26: its characters", x.writeTransferred(), 17);
        Check.stem(x, 0, "dog", 'N', 3, 0);
        Check.type(x, "dog");
        x.setWord(0);
        CHECK.fails("26: no transfer", NoSuchElementException.class, x::writeTransferred);
        CHECK.is("25: in pieces", Check.translated(x), "p *dog katn zie");
        x.begin(0);
        CHECK.fails("25: no words again", IllegalStateException.class, x::translate);
        CHECK.is("25: a throw leaves what was written", Check.written(x), "*dog katn zie");
        CHECK.is("27: a throw leaves the pieces", x.pieces(), 2);
        CHECK.is("28: a throw leaves the copies", x.copied(), 1);
        CHECK.is("29: a throw leaves the reasons", Check.reasons(x), List.of("t3"));
        CHECK.is("34: a throw counts nothing", x.translations(), 1);
    }

    private static void back() {
        PhraseFerry x = nounsAndVerbs();
        CHECK.fails("32: there was none", IllegalStateException.class, x::back);
        Check.say(x, "cat");
        x.translate();
        CHECK.fails("32: it was no whole", IllegalStateException.class, x::back);
        Check.say(x, "see cat");
        x.translate();
        CHECK.is("32: equal", x.back(), 'e');
        x.begin(1);
        CHECK.is("32: of the last translation, whatever is begun", x.back(), 'e');
        CHECK.fails("25: no words", IllegalStateException.class, x::translate);
        CHECK.is("32: a throw leaves the last one", x.back(), 'e');
        x.turnRole(0, 0, 4);
        x.addTransfer(0, 1, 2, 40);
        CHECK.is("32: with what was transferred then", x.back(), 'e');
        Check.stem(x, 1, "kat", 'N', 30, 16 + 1);
        CHECK.is("32: a later stem is not read first", x.back(), 'e');
        x.setRule(1, 1, 0, 2, 0);
        CHECK.is("32: no item S any more", x.back(), 'n');
        x.setRule(1, 1, 0, 1, 0);
        CHECK.is("32: it is there again", x.back(), 'e');
        backOfWhatWasTransferred();
        PhraseFerry y = new PhraseFerry();
        letters(y, 0, "ab", "SS");
        letters(y, 1, "kk", "SS");
        transferAll(y, 2);
        Check.say(y, "b");
        CHECK.is("25: the second stem", Check.translated(y), "w k");
        CHECK.is("32: it is read as the first one", y.back(), 'd');
        int found = y.found();
        y.back();
        CHECK.is("32: nothing is found for the sentence", y.found(), found);
        Check.say(y, "b");
        y.translate();
        CHECK.fails("32: no whole any more", IllegalStateException.class, y::back);
    }

    /** What was transferred stays what it was, whatever is edited, told or written behind the translation. */
    private static void backOfWhatWasTransferred() {
        PhraseFerry x = nounsAndVerbs();
        Check.say(x, "cats see cat");
        CHECK.is("25: a whole", Check.translated(x), "w kate katn zie");
        x.removeWord(0);
        CHECK.is("32: a word was taken out", x.back(), 'e');
        Check.type(x, "cat");
        x.insertWord(0);
        CHECK.is("26: another number", transferred(x), "22(0:21.1,1:21.1)");
        CHECK.is("32: another meaning was written", x.back(), 'e');
        x.write(1, 0, 3);
        CHECK.is("32: a form was written", x.back(), 'e');
        CHECK.is("37: sound", x.isSound(), true);
        CHECK.is("32: the chart was looked at", x.back(), 'e');
        Check.stem(x, 0, "see", 'V', 3, 0);
        x.setRule(0, 1, 0, 0, 9);
        CHECK.is("32: the language of the sentence was told more", x.back(), 'e');
        x.begin(0);
        CHECK.is("32: the sentence is gone", x.back(), 'e');
        Check.rule(x, 1, "S=N+P*", 5, 0, 1, 0);
        CHECK.is("32: a later rule is not read first", x.back(), 'e');
        x.setRule(1, 1, 0, 1, 1);
        CHECK.is("32: the later one has another role", x.back(), 'd');
        CHECK.is("32: it stays the meaning of the output", x.back(), 'd');
        Check.say(x, "cat see cats");
        CHECK.is("25: another whole", Check.translated(x), "w kat katen zie");
        CHECK.is("26: its meaning", transferred(x), "22(0:21.1,1:21.2)");
        CHECK.is("32: the last translation, with the later rule", x.back(), 'd');
        x.setRule(1, 1, 0, 1, 0);
        CHECK.is("32: the last translation", x.back(), 'e');
    }
}
