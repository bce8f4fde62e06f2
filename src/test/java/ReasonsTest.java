import java.util.List;

/** Promises 29 to 31: why a translation was no whole. */
public final class ReasonsTest {
    private static final Check CHECK = new Check("ReasonsTest");

    public static void main(String[] args) {
        noItem();
        noTransfer();
        noForm();
        noParts();
        firstPart();
        noSentence();
        wrong();
        CHECK.end();
    }

    /** A verb with dependents of two roles, of which each may have one of a third role. */
    private static PhraseFerry told(String nouns) {
        PhraseFerry x = new PhraseFerry();
        Check.ending(x, 0, "", 'N', 0);
        Check.ending(x, 0, "", 'V', 0);
        for (int i = 0; i < nouns.length(); i++) {
            Check.stem(x, 0, nouns.substring(i, i + 1), 'N', 1 + i, 0);
        }
        Check.stem(x, 0, "v", 'V', 9, 0);
        Check.rule(x, 0, "P=V*+N", 1);
        Check.rule(x, 0, "S=N+P*", 2);
        Check.rule(x, 0, "N=N*+N", 3);
        Check.ending(x, 1, "", 'N', 0);
        Check.ending(x, 1, "", 'V', 0);
        return x;
    }

    private static List<String> reasonsFor(PhraseFerry x, String words) {
        x.begin(0);
        Check.say(x, words);
        x.translate();
        return Check.reasons(x);
    }

    private static void transferAll(PhraseFerry x) {
        for (int meaning = 1; meaning <= 9; meaning++) {
            x.addTransfer(0, meaning, -1, 10 + meaning);
        }
    }

    private static void noItem() {
        PhraseFerry x = told("ab");
        CHECK.is("29: none at first", x.reasons(), 0);
        CHECK.is("30: no item S", reasonsFor(x, "v a"), List.of("g-1"));
        CHECK.is("30: an unknown word", reasonsFor(x, "q"), List.of("g-1"));
    }

    private static void noTransfer() {
        PhraseFerry x = told("ab");
        CHECK.is("30: what a tree has of itself", reasonsFor(x, "a v b"), List.of("t9"));
        x.addTransfer(0, 9, -1, 19);
        CHECK.is("30: then by rising roles", reasonsFor(x, "a v b"), List.of("t2"));
        CHECK.is("30: as it is written", reasonsFor(x, "b v a"), List.of("t1"));
        x.turnRole(0, 1, 7);
        CHECK.is("30: as the tree that has none is written", reasonsFor(x, "b v a"), List.of("t1"));
        x.addTransfer(0, 1, 2, 11);
        CHECK.is("31: another context does not count", reasonsFor(x, "b v a"), List.of("t1"));
        x.addTransfer(0, 1, 9, 11);
        CHECK.is("31: its context counts", reasonsFor(x, "b v a"), List.of("t2"));
        CHECK.is("31: a part of a part", reasonsFor(x, "b v a a"), List.of("t1"));
        PhraseFerry y = told("ab");
        y.addTransfer(0, 9, -1, 19);
        y.addTransfer(0, 1, 9, 11);
        CHECK.is("31: ahead of the next part", reasonsFor(y, "b v a b"), List.of("t2"));
        y.addTransfer(0, 2, 9, 12);
        CHECK.is("31: in a part of a part alone", reasonsFor(y, "b v a b"), List.of("t2"));
    }

    private static void noForm() {
        PhraseFerry x = told("ab");
        transferAll(x);
        CHECK.is("30: no stem", reasonsFor(x, "a v b"), List.of("n19"));
        Check.stem(x, 1, "w", 'X', 19, 0);
        CHECK.is("30: a stem without an ending", reasonsFor(x, "a v b"), List.of("n19"));
        Check.stem(x, 1, "x", 'V', 19, 0);
        CHECK.is("30: there is a form, but none of a part", reasonsFor(x, "a v b"), List.of("f19", "n12"));
        PhraseFerry y = new PhraseFerry();
        Check.ending(y, 0, "", 'S', 0);
        Check.counted(y, 0, "a", 'S', 1, 32);
        y.addTransfer(0, 1, -1, 1);
        Check.ending(y, 1, "", 'S', 16);
        Check.counted(y, 1, "b", 'S', 1, 0);
        CHECK.is("30: no form with its number", reasonsFor(y, "a"), List.of("n1"));
        Check.ending(y, 1, "", 'S', 0);
        CHECK.is("30: an open number is another one", reasonsFor(y, "a"), List.of("n1"));
        Check.ending(y, 1, "", 'S', 32);
        CHECK.is("29: none of them any more", reasonsFor(y, "a"), List.of());
    }

    private static void noParts() {
        PhraseFerry x = told("ab");
        transferAll(x);
        Check.stem(x, 1, "x", 'V', 19, 0);
        Check.stem(x, 1, "y", 'N', 11, 0);
        Check.stem(x, 1, "z", 'N', 12, 0);
        CHECK.is("30: all parts can be made, but no rule takes them", reasonsFor(x, "a v b"), List.of("f19"));
        Check.rule(x, 1, "V=V*+N", 1);
        CHECK.is("30: a rule takes one of them alone", reasonsFor(x, "a v b"), List.of("f19"));
        CHECK.is("30: a part that has no rule", reasonsFor(x, "a v b a"), List.of("f19", "f12"));
        CHECK.is("30: a part of a part", reasonsFor(x, "a v b a b"), List.of("f19", "f12", "f11"));
        Check.stem(x, 0, "c", 'N', 3, 0);
        CHECK.is("30: the cause is the last", reasonsFor(x, "a v b a c"), List.of("f19", "f12", "f11", "n13"));
        CHECK.is("30: a longer chain", reasonsFor(x, "a v b a a c"), List.of("f19", "f12", "f11", "f11", "n13"));
        Check.rule(x, 0, "S=V*+N", 1);
        CHECK.is("30: the longest chain", reasonsFor(x, "v b a b a c"),
                List.of("f19", "f12", "f11", "f12", "f11", "n13"));
    }

    private static void firstPart() {
        PhraseFerry x = told("abc");
        transferAll(x);
        Check.stem(x, 1, "x", 'V', 19, 0);
        CHECK.is("31: by rising roles", reasonsFor(x, "a v b"), List.of("f19", "n12"));
        x.turnRole(0, 1, 5);
        CHECK.is("31: as the transferred tree is written", reasonsFor(x, "a v b"), List.of("f19", "n11"));
        x.turnRole(0, 1, 2);
        CHECK.is("31: of the same role by the text", reasonsFor(x, "b v a"), List.of("f19", "n11"));
        CHECK.is("31: in the other order", reasonsFor(x, "a v b"), List.of("f19", "n11"));
        Check.stem(x, 1, "y", 'N', 11, 0);
        CHECK.is("31: the first one that can't be made", reasonsFor(x, "a v b"), List.of("f19", "n12"));
        CHECK.is("31: with all its parts", reasonsFor(x, "a c v b"), List.of("f19", "f11", "n13"));
    }

    private static void noSentence() {
        PhraseFerry x = told("ab");
        transferAll(x);
        Check.stem(x, 1, "x", 'V', 19, 0);
        Check.stem(x, 1, "y", 'N', 11, 0);
        Check.stem(x, 1, "z", 'N', 12, 0);
        Check.rule(x, 1, "V=V*+N", 1);
        Check.rule(x, 1, "V=V*+N", 2);
        CHECK.is("30: none of the category S", reasonsFor(x, "a v b"), List.of("s19"));
        CHECK.is("27: one piece then", x.pieces(), 1);
        Check.rule(x, 1, "W=V", 0);
        CHECK.is("30: a rule of one for another", reasonsFor(x, "a v b"), List.of("s19"));
        CHECK.is("30: a part that fails comes first", reasonsFor(x, "a v b a"), List.of("f19", "f12"));
        Check.rule(x, 1, "S=N*+N", 3);
        CHECK.is("30: an S of a part is none of the whole", reasonsFor(x, "a v b"), List.of("s19"));
        Check.rule(x, 1, "S=V*+N", 2);
        CHECK.is("29: a whole has none", reasonsFor(x, "a v b"), List.of());
    }

    private static void wrong() {
        PhraseFerry x = told("ab");
        CHECK.fails("30: none so far", IndexOutOfBoundsException.class, () -> x.reason(0));
        CHECK.fails("31: none so far", IndexOutOfBoundsException.class, () -> x.reasonMeaning(0));
        transferAll(x);
        Check.stem(x, 1, "x", 'V', 19, 0);
        CHECK.is("29: two", reasonsFor(x, "a v b").size(), 2);
        for (int index : new int[] {-1, 2, 3, Integer.MIN_VALUE, Integer.MAX_VALUE}) {
            CHECK.fails("30: index " + index, IndexOutOfBoundsException.class, () -> x.reason(index));
            CHECK.fails("31: index " + index, IndexOutOfBoundsException.class, () -> x.reasonMeaning(index));
        }
        x.begin(1);
        CHECK.is("29: they stay until the next translation", Check.reasons(x), List.of("f19", "n12"));
        Check.say(x, "x");
        x.translate();
        CHECK.is("29: of the last one alone", Check.reasons(x), List.of("g-1"));
    }
}
