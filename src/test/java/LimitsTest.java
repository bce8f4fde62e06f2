import java.math.BigInteger;
import java.util.List;
import java.util.NoSuchElementException;

/** The terms at their limits: what is told last, longest, highest or most of all is used like the rest. */
public final class LimitsTest {
    private static final Check CHECK = new Check("LimitsTest");
    private static final String LETTERS = "abcdefghijklmnopqrstuvwxyz";

    public static void main(String[] args) {
        mostLetters();
        longestForms();
        lastStemsAndEndings();
        lowestStem();
        mostForms();
        noForm();
        lastJoint();
        features();
        lastRule();
        lowestOfRules();
        longestClimb();
        readingsBeyondLong();
        firstAndLastCategory();
        meaningsAndRoles();
        numbersOfMeanings();
        lastTransfer();
        mostParts();
        deepestParts();
        nothing();
        mostCalls();
        CHECK.end();
    }

    private static String pairOf(int number) {
        return "" + LETTERS.charAt(number % 26) + LETTERS.charAt(number / 26);
    }

    // ---- words

    private static void mostLetters() {
        PhraseFerry x = new PhraseFerry();
        String text = "w";
        for (int i = 0; i < 6; i++) {
            String word = (LETTERS + LETTERS).substring(i, i + 40);
            Check.say(x, word);
            text += " *" + word;
        }
        CHECK.is("25: six copied words of 40 letters", Check.translated(x), "p" + text.substring(1));
        CHECK.is("28: six", x.copied(), 6);
    }

    private static void longestForms() {
        PhraseFerry x = new PhraseFerry();
        for (int language = 0; language < 2; language++) {
            Check.ending(x, language, "zyxw", 'S', 0);
            Check.stem(x, language, language == 0 ? "abcdefgh" : "hgfedcba", 'S', 1, 0);
            Check.rule(x, language, "S=S*+S", 1);
        }
        x.addTransfer(0, 1, -1, 1);
        CHECK.is("11: 12 letters", Check.form(x, 0, 0, 0), "abcdefghzyxw");
        for (int i = 0; i < 6; i++) {
            Check.say(x, "abcdefghzyxw");
        }
        CHECK.is("18: 12 letters", x.analyses(5), 1);
        CHECK.is("25: six words of 12 letters", Check.translated(x), "w" + " hgfedcbazyxw".repeat(6));
        CHECK.is("32: six words of 12 letters", x.back(), 'e');
        for (String other : new String[] {"abcdefghzyx", "abcdefghzyxwa", "abcdefghzyxww", "bcdefghzyxw"}) {
            Check.type(x, other);
            CHECK.is("15: analyses of " + other, x.setWord(0), 0);
        }
    }

    /** All forms differ; the sentence is told of the first and the last ones. */
    private static void lastStemsAndEndings() {
        PhraseFerry x = new PhraseFerry();
        for (int i = 0; i < 20; i++) {
            Check.ending(x, 0, LETTERS.substring(i, i + 1), 'A', 0);
        }
        for (int i = 0; i < 30; i++) {
            Check.stem(x, 0, pairOf(i), 'A', 59 - i, 0);
        }
        for (int stem : new int[] {0, 1, 28, 29}) {
            for (int ending : new int[] {0, 1, 15, 16, 18, 19}) {
                String form = pairOf(stem) + LETTERS.charAt(ending);
                CHECK.is("11: stem " + stem + ", ending " + ending, Check.form(x, 0, stem, ending), form);
                x.begin(0);
                Check.say(x, form);
                CHECK.is("18: analyses of " + form, x.analyses(0), 1);
                CHECK.is("23: meaning of " + form, Check.meaning(x, 0, 1, 'A'), "" + (59 - stem));
            }
        }
    }

    /** A word is a stem with the last ending, and the next stem with the first one. */
    private static void lowestStem() {
        PhraseFerry x = new PhraseFerry();
        x.addEnding(0, 'A', 0);
        for (int i = 1; i < 19; i++) {
            x.addEnding(0, 'B', 0);
        }
        Check.ending(x, 0, "b", 'A', 0);
        for (int i = 0; i < 26; i += 2) {
            Check.stem(x, 0, LETTERS.substring(i, i + 1), 'A', i, 0);
            Check.stem(x, 0, LETTERS.charAt(i) + "b", 'A', i + 1, 0);
        }
        for (int i = 0; i < 26; i += 2) {
            x.begin(0);
            Check.say(x, LETTERS.charAt(i) + "b");
            CHECK.is("18: two analyses", x.analyses(0), 2);
            CHECK.is("23: the lowest stem, then ending", Check.meaning(x, 0, 1, 'A'), "" + i);
        }
    }

    /** 600 forms, no two alike; then joints make others of some, so that more than 600 were there. */
    private static void mostForms() {
        PhraseFerry x = new PhraseFerry();
        x.addEnding(0, 'S', 0);
        for (int i = 0; i < 20; i++) {
            Check.ending(x, 1, LETTERS.substring(i, i + 1), 'S', 0);
        }
        for (int meaning = 0; meaning < 30; meaning++) {
            Check.stem(x, 0, pairOf(meaning), 'S', meaning, 0);
            Check.stem(x, 1, pairOf(meaning), 'S', meaning, 0);
            x.addTransfer(0, meaning, -1, meaning);
        }
        mostForms(x, "aa", "ba");
        x.addJoint(1, 'a', 'b', 'a', '-');
        mostForms(x, "a", "ba");
        x.addJoint(1, 'b', 't', '-', '-');
        mostForms(x, "a", "");
    }

    private static void mostForms(PhraseFerry x, String ofFirst, String ofLast) {
        for (int meaning : new int[] {0, 13, 25, 26, 29}) {
            x.begin(0);
            Check.say(x, pairOf(meaning));
            CHECK.is("25: of 600 forms, meaning " + meaning, Check.translated(x),
                    "w " + LETTERS.charAt(meaning % 26) + (meaning < 26 ? ofFirst : ofLast));
            CHECK.is("32: of 600 forms, meaning " + meaning, x.back() == 'n', false);
        }
    }

    private static void noForm() {
        PhraseFerry x = new PhraseFerry();
        x.addEnding(0, 'S', 0);
        Check.stem(x, 0, "a", 'S', 1, 0);
        x.addTransfer(0, 1, -1, 1);
        Check.ending(x, 1, "s", 'S', 0);
        Check.stem(x, 1, "y", 'S', 1, 0);
        Check.say(x, "a");
        CHECK.is("25: there is a form", Check.translated(x), "w ys");
        x.addJoint(1, 'y', 's', '-', '-');
        CHECK.fails("11: no letter is left", NoSuchElementException.class, () -> x.write(1, 0, 0));
        CHECK.is("25: no letter is left", Check.translated(x), "p *a");
        CHECK.is("30: no letter is left", Check.reasons(x), List.of("n1"));
        Check.ending(x, 1, "so", 'S', 0);
        CHECK.is("25: one letter is left", Check.translated(x), "w o");
        Check.stem(x, 1, "ey", 'S', 1, 0);
        CHECK.is("25: another one", Check.translated(x), "w e");
        CHECK.is("11: nothing but the letter of the stem", x.write(1, 1, 0), 1);
    }

    private static void lastJoint() {
        PhraseFerry x = new PhraseFerry();
        Check.stem(x, 0, "ya", 'A', 1, 0);
        Check.ending(x, 0, "jz", 'A', 0);
        Check.ending(x, 0, "", 'A', 0);
        for (int i = 1; i < 10; i++) {
            x.addJoint(0, 'a', LETTERS.charAt(i - 1), 'x', 'x');
            CHECK.is("11: behind joint " + i, Check.form(x, 0, 0, 0), "yajz");
        }
        x.addJoint(0, 'a', 'j', '-', 'k');
        CHECK.is("11: the tenth joint", Check.form(x, 0, 0, 0), "ykz");
        CHECK.is("11: an ending without letters", Check.form(x, 0, 0, 1), "ya");
        Check.say(x, "ykz yajz ya");
        CHECK.is("18: the tenth joint", "" + x.analyses(0) + x.analyses(1) + x.analyses(2), "101");
        Check.stem(x, 0, "k", 'A', 2, 0);
        CHECK.is("11: joints have both letters", Check.form(x, 0, 1, 0), "kjz");
    }

    /** Each of 64 features of a stem with each of 64 of an ending: whether there is a form, and its features. */
    private static void features() {
        for (int stem = 0; stem < 64; stem++) {
            for (int first = 0; first < 64; first += 16) {
                PhraseFerry x = new PhraseFerry();
                Check.stem(x, 0, "a", 'A', 1, stem);
                for (int i = 0; i < 16; i++) {
                    Check.ending(x, 0, LETTERS.substring(i, i + 1), 'A', first + i);
                }
                for (int i = 0; i < 16; i++) {
                    x.begin(0);
                    Check.say(x, "a" + LETTERS.charAt(i));
                    int due = PlainFerry.join(stem, first + i);
                    String name = "features " + stem + " and " + (first + i);
                    CHECK.is(name, x.analyses(0), due < 0 ? 0 : 1);
                    CHECK.is(name, Check.answerOf(() -> x.features(0, 1, 'A')),
                            due < 0 ? "NoSuchElementException" : "" + due);
                }
            }
        }
    }

    // ---- rules and the chart

    private static PhraseFerry ofTwoLanguages(String letters, String categories) {
        PhraseFerry x = new PhraseFerry();
        for (int language = 0; language < 2; language++) {
            for (int i = 0; i < letters.length(); i++) {
                Check.ending(x, language, "", categories.charAt(i), 0);
                Check.stem(x, language, letters.substring(i, i + 1), categories.charAt(i), i + 1, 0);
            }
        }
        for (int i = 0; i < letters.length(); i++) {
            x.addTransfer(0, i + 1, -1, i + 1);
        }
        return x;
    }

    private static void lastRule() {
        PhraseFerry x = ofTwoLanguages("ab", "AB");
        for (int language = 0; language < 2; language++) {
            for (int i = 0; i < 23; i++) {
                x.addRule(language, 'S', 'X', 'Y', true, i % 8);
            }
        }
        Check.say(x, "a b");
        CHECK.is("25: none of 23 rules", Check.translated(x), "p a b");
        Check.rule(x, 0, "S=A+B*", 6, 0, 0, 9);
        CHECK.is("21: rule 23", x.weight(0, 2, 'S'), 9);
        CHECK.is("23: rule 23", Check.meaning(x, 0, 2, 'S'), "2(6:1)");
        CHECK.is("25: no rule for it", Check.translated(x), "p a b");
        CHECK.is("30: no rule for it", Check.reasons(x), List.of("f2"));
        Check.rule(x, 1, "S=B*+A", 6);
        CHECK.is("25: rule 23", Check.translated(x), "w b a");
        CHECK.is("32: rule 23", x.back(), 'e');
    }

    private static void lowestOfRules() {
        PhraseFerry x = ofTwoLanguages("ab", "AB");
        for (int i = 0; i < 24; i++) {
            Check.rule(x, 0, "S=A+B*", i % 8, 0, 0, 9);
        }
        Check.say(x, "a b");
        CHECK.is("20: 24 rules", x.readings(0, 2, 'S'), 24L);
        CHECK.is("23: the lowest rule", Check.meaning(x, 0, 2, 'S'), "2(0:1)");
        for (int rule = 23; rule >= 1; rule--) {
            x.setRule(0, rule, 0, 0, 8);
            CHECK.is("21: of rules from " + rule, x.weight(0, 2, 'S'), 8);
            CHECK.is("23: of rules from " + rule, Check.meaning(x, 0, 2, 'S'), "2(" + rule % 8 + ":1)");
        }
    }

    /** 23 rules of one from A to X and one of two back to A, all of the greatest weight, for six words. */
    private static void longestClimb() {
        PhraseFerry x = ofTwoLanguages("b", "A");
        for (int language = 0; language < 2; language++) {
            for (char category = 'A'; category < 'X'; category++) {
                x.setRule(language, x.addRule(language, (char) (category + 1), category, '-', true, 0), 0, 0, 9);
            }
            Check.rule(x, language, "A=X+X*", 7, 0, 0, 9);
        }
        Check.say(x, "b b b b b b");
        CHECK.is("19: the items of a word", x.items(0, 1), 24);
        CHECK.is("19: the items of all", x.items(0, 6), 24);
        CHECK.is("20: trees of six", x.readings(0, 6, 'X'), 42L);
        CHECK.is("21: eleven climbs and five rules of two", x.weight(0, 6, 'X'), 11 * 23 * 9 + 5 * 9);
        CHECK.is("23: six heads", Check.meaning(x, 0, 6, 'X'), "1(7:1,7:1,7:1,7:1,7:1)");
        CHECK.is("25: as a whole", Check.translated(x), "w b b b b b b");
        CHECK.is("32: read back", x.back(), 'e');
        x.begin(0);
        Check.say(x, "b");
        x.setRule(1, 17, 0, 1, 9);
        x.setRule(1, 16, 0, 2, 9);
        CHECK.is("25: a case that does not fit on the way", Check.translated(x), "p b");
        CHECK.is("30: a case that does not fit on the way", Check.reasons(x), List.of("s1"));
    }

    private static void readingsBeyondLong() {
        PhraseFerry x = new PhraseFerry();
        for (int i = 0; i < 20; i++) {
            x.addEnding(0, 'A', 0);
        }
        for (int i = 0; i < 30; i++) {
            Check.stem(x, 0, "a", 'A', i, 0);
        }
        for (int i = 0; i < 24; i++) {
            Check.rule(x, 0, "A=A*+A", 1);
        }
        long[] trees = {1, 1, 2, 5, 14, 42};
        for (int words = 1; words <= 6; words++) {
            Check.say(x, "a");
            BigInteger due = BigInteger.valueOf(600).pow(words).multiply(BigInteger.valueOf(24).pow(words - 1))
                    .multiply(BigInteger.valueOf(trees[words - 1]));
            CHECK.is("20: readings of " + words + ", wrapped around", x.readings(0, words, 'A'), due.longValue());
            CHECK.is("19: one item of " + words, x.items(0, words), 1);
        }
        CHECK.is("37: sound", x.isSound(), true);
    }

    private static void firstAndLastCategory() {
        PhraseFerry x = ofTwoLanguages("az", "AZ");
        Check.say(x, "a z");
        CHECK.is("25: pieces of A and of Z", Check.translated(x), "p a z");
        CHECK.is("27: pieces of A and of Z", x.pieces(), 2);
        x.removeWord(1);
        Check.translated(x);
        CHECK.is("30: no item S", Check.reasons(x), List.of("g-1"));
        Check.rule(x, 0, "S=A", 0);
        CHECK.is("25: a whole that is made as an A", Check.translated(x), "p a");
        CHECK.is("30: a whole that is made as an A", Check.reasons(x), List.of("s1"));
        Check.rule(x, 0, "Z=A+Z*", 0);
        Check.rule(x, 1, "A=Z*+A", 0);
        x.begin(0);
        Check.say(x, "a z");
        CHECK.is("19: a rule of A and Z", x.items(0, 2), 1);
        CHECK.is("25: as one piece", Check.translated(x), "p z a");
    }

    // ---- meanings, transfers and making

    private static void meaningsAndRoles() {
        PhraseFerry x = new PhraseFerry();
        for (int language = 0; language < 2; language++) {
            for (char category : "ABCS".toCharArray()) {
                Check.ending(x, language, "", category, 0);
            }
            Check.stem(x, language, "a", 'A', language == 0 ? 0 : 59, 0);
            Check.stem(x, language, "b", 'B', language == 0 ? 59 : 0, 0);
            Check.stem(x, language, "c", 'C', 9, 0);
            Check.stem(x, language, "d", 'C', 10, 0);
            Check.rule(x, language, "B=A+B*", language == 0 ? 0 : 7);
            Check.rule(x, language, "S=B*+C", language == 0 ? 7 : 0);
        }
        x.turnRole(0, 0, 7);
        x.turnRole(0, 7, 0);
        Check.say(x, "a b c");
        CHECK.is("23: meanings and roles", Check.meaning(x, 0, 3, 'S'), "59(0:0,7:9)");
        String[] due = {"t59", "t0", "t9"};
        int[][] transfers = {{59, -1, 0}, {0, 59, 59}, {9, 59, 9}};
        for (int i = 0; i < 3; i++) {
            CHECK.is("30: no transfer", Check.translated(x).charAt(0) + " " + Check.reasons(x), "p [" + due[i] + "]");
            CHECK.fails("26: no transfer", NoSuchElementException.class, x::writeTransferred);
            x.addTransfer(0, transfers[i][0], transfers[i][1], transfers[i][2]);
        }
        CHECK.is("26: its characters", x.writeTransferred(), 11);
        CHECK.is("26: meanings and roles", Check.written(x), "0(0:9,7:59)");
        CHECK.is("25: meanings and roles", Check.translated(x), "w a b c");
        Check.type(x, "d");
        x.setWord(2);
        x.addTransfer(0, 10, -1, 58);
        CHECK.is("31: a part that has no form", Check.translated(x) + " " + Check.reasons(x), "p a b *d [f0, n58]");
    }

    private static void numbersOfMeanings() {
        for (int number = 0; number < 4; number++) {
            PhraseFerry x = new PhraseFerry();
            x.addEnding(0, 'S', 15);
            Check.counted(x, 0, "a", 'S', 9, 16 * number);
            Check.stem(x, 0, "b", 'S', 9, 16 * number);
            for (int i = 0; i < 4; i++) {
                Check.ending(x, 1, LETTERS.substring(3 - i, 4 - i), 'S', 16 * i + 15);
            }
            Check.counted(x, 1, "m", 'S', 8, 0);
            x.addTransfer(0, 9, -1, 8);
            Check.say(x, "a");
            CHECK.is("23: the number " + number, Check.meaning(x, 0, 1, 'S'), number == 0 ? "9" : "9." + number);
            CHECK.is("25: the number " + number, Check.translated(x), "w m" + "acba".charAt(number));
            CHECK.is("32: the number " + number, x.back(), number == 0 ? 'd' : 'e');
            Check.type(x, "b");
            x.setWord(0);
            CHECK.is("23: not counted, " + number, Check.meaning(x, 0, 1, 'S'), "9");
            CHECK.is("25: not counted, " + number, Check.translated(x), "w ma");
        }
    }

    private static void lastTransfer() {
        for (int context : new int[] {-1, 2}) {
            PhraseFerry x = ofTwoLanguages("ab", "AS");
            Check.rule(x, 0, "S=A+S*", 1);
            Check.stem(x, 0, "c", 'A', 30, 0);
            for (int i = 3; i < 40; i++) {
                x.addTransfer(0, 31, i, i);
            }
            Check.say(x, "c b");
            CHECK.fails("26: none of 39 transfers", NoSuchElementException.class, x::writeTransferred);
            CHECK.is("9: the last transfer", x.addTransfer(0, 30, context, 59), 40);
            CHECK.is("26: its characters", x.writeTransferred(), 7);
            CHECK.is("26: transfer 40, with the context " + context, Check.written(x), "2(1:59)");
        }
    }

    /** One head with five parts: of as many as can be, each is taken once, in the order of the other language. */
    private static void mostParts() {
        PhraseFerry x = ofTwoLanguages("abcdef", "ABCDES");
        for (int i = 0; i < 5; i++) {
            x.addRule(0, 'S', LETTERS.toUpperCase().charAt(i), 'S', false, i);
            x.addRule(1, (char) ('U' + i), LETTERS.toUpperCase().charAt(4 - i), i == 0 ? 'S' : (char) ('T' + i),
                    false, 4 - i);
        }
        Check.rule(x, 1, "Z=Y", 0);
        Check.say(x, "a b c d e f");
        CHECK.is("23: five parts", Check.meaning(x, 0, 6, 'S'), "6(0:1,1:2,2:3,3:4,4:5)");
        CHECK.is("25: none of the category S", Check.translated(x), "p a b c d e f");
        CHECK.is("27: one piece", x.pieces(), 1);
        CHECK.is("30: none of the category S", Check.reasons(x), List.of("s6"));
        Check.rule(x, 1, "S=A+X*", 0);
        CHECK.is("25: as a whole", Check.translated(x), "w a b c d e f");
        CHECK.is("32: read back", x.back(), 'e');
        Check.rule(x, 1, "S=X*+A", 0);
        x.setRule(1, 6, 0, 0, 1);
        CHECK.is("25: in another order", Check.translated(x), "w b c d e f a");
    }

    /** Each of six words is a part of the one ahead of it. */
    private static void deepestParts() {
        PhraseFerry x = ofTwoLanguages("abcdef", "SSSSSS");
        Check.rule(x, 0, "S=S*+S", 3);
        Check.rule(x, 1, "S=S+S*", 3);
        Check.say(x, "a b c d e f");
        CHECK.is("23: six words deep", Check.meaning(x, 0, 6, 'S'), "1(3:2(3:3(3:4(3:5(3:6)))))");
        CHECK.is("25: six words deep", Check.translated(x), "w f e d c b a");
        CHECK.is("26: its characters", x.writeTransferred(), 26);
    }

    // ---- nothing told

    private static void nothing() {
        PhraseFerry x = new PhraseFerry();
        Check.say(x, "a b");
        CHECK.is("19: no items", x.items(0, 1) + x.items(1, 2) + x.items(0, 2), 0);
        CHECK.is("20: no readings", x.readings(0, 2, 'S'), 0L);
        CHECK.is("25: nothing told", Check.translated(x), "p *a *b");
        CHECK.is("30: nothing told", Check.reasons(x), List.of("g-1"));
        CHECK.is("33: three stretches were looked at", x.found(), 3);
        CHECK.is("37: nothing told", x.isSound(), true);
        x.begin(1);
        CHECK.is("37: no words", x.isSound(), true);
    }

    /** An object is used for 512 calls: edits of a full sentence, each of them followed by what it found. */
    private static void mostCalls() {
        PhraseFerry x = ofTwoLanguages("ab", "AB");
        Check.rule(x, 0, "A=A*+B", 1);
        Check.say(x, "a b b b b b");
        int calls = 14 + 1 + 12;
        int found = 21;
        for (int edit = 0; calls + 4 <= 512; edit++) {
            int index = edit % 6;
            x.type(index == 0 ? 'a' : 'b');
            CHECK.is("15: edit " + edit, x.setWord(index), 1);
            found += (index + 1) * (6 - index);
            CHECK.is("33: edit " + edit, x.found(), found);
            calls += 3;
        }
        while (calls < 511) {
            x.words();
            calls++;
        }
        CHECK.is("23: the 512th call", x.writeMeaning(0, 6, 'A'), 22);
    }
}
