import java.util.NoSuchElementException;

/** Promises 23 and 24: meanings of best readings, and what was written. */
public final class MeaningTest {
    private static final Check CHECK = new Check("MeaningTest");

    public static void main(String[] args) {
        numbers();
        parts();
        bestReadings();
        lowestFeatures();
        wrong();
        characters();
        CHECK.end();
    }

    private static PhraseFerry sentence() {
        PhraseFerry x = new PhraseFerry();
        for (char category : "DNVS".toCharArray()) {
            x.addEnding(0, category, 0);
        }
        return x;
    }

    private static void numbers() {
        PhraseFerry x = sentence();
        Check.counted(x, 0, "n", 'N', 10, 0);
        Check.counted(x, 0, "m", 'N', 11, 32);
        Check.counted(x, 0, "v", 'V', 12, 0);
        Check.stem(x, 0, "d", 'D', 9, 48);
        Check.rule(x, 0, "N=D+N*", 1, 1, 0, 0);
        Check.rule(x, 0, "S=N+V*", 0, 1, 0, 0);
        Check.rule(x, 0, "V=V*+N", 0);
        Check.rule(x, 0, "Z=V", 0);
        Check.say(x, "d n v");
        CHECK.is("23: an open number", Check.meaning(x, 1, 2, 'N'), "10");
        CHECK.is("23: one that is not counted", Check.meaning(x, 0, 1, 'D'), "9");
        CHECK.is("23: of the greatest item", Check.meaning(x, 0, 2, 'N'), "10.3(1:9)");
        CHECK.is("23: of the whole", Check.meaning(x, 0, 3, 'S'), "12.3(0:10.3(1:9))");
        CHECK.is("23: above a rule of one", Check.meaning(x, 2, 3, 'Z'), "12");
        x.begin(0);
        Check.say(x, "v m");
        CHECK.is("23: a dependent keeps its own", Check.meaning(x, 0, 2, 'V'), "12(0:11.2)");
    }

    private static void parts() {
        PhraseFerry x = sentence();
        Check.stem(x, 0, "v", 'V', 5, 0);
        Check.stem(x, 0, "a", 'N', 10, 0);
        Check.stem(x, 0, "b", 'N', 9, 0);
        Check.stem(x, 0, "c", 'D', 1, 0);
        Check.rule(x, 0, "V=V*+N", 2);
        Check.rule(x, 0, "V=D+V*", 1);
        Check.rule(x, 0, "N=N*+D", 7);
        Check.say(x, "c v b");
        CHECK.is("23: by rising roles", Check.meaning(x, 0, 3, 'V'), "5(1:1,2:9)");
        x.begin(0);
        Check.say(x, "v b a");
        CHECK.is("23: by texts in the order of characters", Check.meaning(x, 0, 3, 'V'), "5(2:10,2:9)");
        x.begin(0);
        Check.say(x, "v a c a");
        CHECK.is("23: a text ahead of a longer one", Check.meaning(x, 0, 4, 'V'), "5(2:10,2:10(7:1))");
        x.begin(0);
        Check.say(x, "c c v a b a");
        CHECK.is("23: five parts", Check.meaning(x, 0, 6, 'V'), "5(1:1,1:1,2:10,2:10,2:9)");
        CHECK.is("23: of a stretch", Check.meaning(x, 2, 4, 'V'), "5(2:10)");
    }

    private static void bestReadings() {
        PhraseFerry x = sentence();
        Check.stem(x, 0, "a", 'N', 1, 0);
        Check.stem(x, 0, "a", 'N', 2, 0);
        Check.say(x, "a");
        CHECK.is("23: the lowest stem", Check.meaning(x, 0, 1, 'N'), "1");
        Check.rule(x, 0, "N=N*+N", 1);
        Check.rule(x, 0, "N=N+N*", 2);
        Check.say(x, "a a");
        CHECK.is("23: the lowest rule, then the shortest left stretch", Check.meaning(x, 0, 3, 'N'),
                "1(1:1(1:1))");
        x.setRule(0, 0, 0, 0, 1);
        CHECK.is("23: a weight comes ahead of the rule", Check.meaning(x, 0, 3, 'N'), "1(2:1,2:1)");
        x.setRule(0, 1, 0, 0, 1);
        CHECK.is("23: the same weight", Check.meaning(x, 0, 3, 'N'), "1(1:1(1:1))");
        PhraseFerry y = sentence();
        Check.stem(y, 0, "a", 'N', 1, 0);
        Check.rule(y, 0, "Z=N", 0);
        y.addEnding(0, 'Z', 0);
        Check.stem(y, 0, "a", 'Z', 2, 0);
        Check.say(y, "a");
        CHECK.is("23: an analysis ahead of rules", Check.meaning(y, 0, 1, 'Z'), "2");
        CHECK.is("20: both are read", y.readings(0, 1, 'Z'), 2L);
    }

    private static void lowestFeatures() {
        PhraseFerry x = sentence();
        Check.stem(x, 0, "a", 'N', 1, 2);
        Check.stem(x, 0, "a", 'N', 2, 1);
        Check.stem(x, 0, "v", 'V', 3, 0);
        Check.stem(x, 0, "v", 'D', 4, 0);
        Check.rule(x, 0, "S=N+V*", 0);
        Check.rule(x, 0, "S=D+N*", 0);
        Check.rule(x, 0, "Z=N+V*", 0);
        Check.rule(x, 0, "T=N", 0);
        Check.say(x, "a v");
        CHECK.is("23: the lowest features on the left", Check.meaning(x, 0, 2, 'S'), "3(0:2)");
        CHECK.is("20: both are read", x.readings(0, 2, 'S'), 2L);
        Check.rule(x, 0, "U=D*+N", 0);
        Check.say(x, "a");
        CHECK.is("23: the lowest features on the right", Check.meaning(x, 1, 3, 'U'), "4(0:2)");
        PhraseFerry y = sentence();
        Check.stem(y, 0, "a", 'N', 1, 2);
        Check.stem(y, 0, "a", 'N', 2, 0);
        Check.rule(y, 0, "Z=N", 0, 0, 2, 0);
        Check.say(y, "a");
        CHECK.is("23: the lowest features of the only one", Check.meaning(y, 0, 1, 'Z'), "2");
        CHECK.is("19: which comes to the same item", y.items(0, 1), 3);
    }

    private static void wrong() {
        PhraseFerry x = sentence();
        Check.stem(x, 0, "a", 'N', 1, 0);
        Check.say(x, "a a");
        CHECK.is("23: a word", Check.meaning(x, 0, 1, 'N'), "1");
        CHECK.fails("23: no stretch", IndexOutOfBoundsException.class, () -> x.writeMeaning(1, 1, 'a'));
        CHECK.fails("23: none so far", IndexOutOfBoundsException.class, () -> x.writeMeaning(0, 3, 'N'));
        CHECK.fails("23: from -1", IndexOutOfBoundsException.class, () -> x.writeMeaning(-1, 1, 'N'));
        CHECK.fails("23: category a", IllegalArgumentException.class, () -> x.writeMeaning(0, 2, 'a'));
        CHECK.fails("23: category -", IllegalArgumentException.class, () -> x.writeMeaning(0, 2, '-'));
        CHECK.fails("23: no item", NoSuchElementException.class, () -> x.writeMeaning(0, 2, 'N'));
        CHECK.is("23: a throw leaves what was written", Check.written(x), "1");
    }

    private static void characters() {
        PhraseFerry x = sentence();
        Check.stem(x, 0, "abc", 'N', 59, 0);
        Check.rule(x, 0, "S=N", 0);
        x.addTransfer(0, 59, -1, 3);
        CHECK.fails("24: nothing at first", IndexOutOfBoundsException.class, () -> x.charAt(0));
        x.write(0, 0, 1);
        CHECK.is("24: the first", x.charAt(0), 'a');
        CHECK.is("24: the last", x.charAt(2), 'c');
        CHECK.fails("24: -1", IndexOutOfBoundsException.class, () -> x.charAt(-1));
        CHECK.fails("24: behind the last", IndexOutOfBoundsException.class, () -> x.charAt(3));
        CHECK.fails("24: far behind", IndexOutOfBoundsException.class, () -> x.charAt(Integer.MAX_VALUE));
        CHECK.fails("24: far ahead", IndexOutOfBoundsException.class, () -> x.charAt(Integer.MIN_VALUE));
        Check.say(x, "abc");
        x.writeMeaning(0, 1, 'N');
        CHECK.is("24: by writeMeaning, in place", Check.written(x), "59");
        x.translate();
        CHECK.is("24: by translate, in place", Check.written(x), "*abc");
        x.writeTransferred();
        CHECK.is("24: by writeTransferred, in place", Check.written(x), "3");
        x.begin(1);
        CHECK.is("24: it stays", Check.written(x), "3");
    }
}
