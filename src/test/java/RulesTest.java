/** Promises 7 to 10: rules, what they ask for, transfers and roles. */
public final class RulesTest {
    private static final Check CHECK = new Check("RulesTest");

    public static void main(String[] args) {
        addRule();
        setRule();
        ruleOfOne();
        addTransfer();
        turnRole();
        CHECK.end();
    }

    private static void addRule() {
        PhraseFerry x = new PhraseFerry();
        CHECK.is("7: the first", x.addRule(0, 'A', 'A', 'A', true, 0), 0);
        CHECK.is("7: the last letters", x.addRule(0, 'Z', 'Z', 'Z', false, 7), 1);
        CHECK.is("7: of one", x.addRule(0, 'B', 'A', '-', true, 0), 2);
        CHECK.is("7: of another language", x.addRule(1, 'S', 'N', 'V', true, 1), 0);
        CHECK.fails("7: language -1", IndexOutOfBoundsException.class, () -> x.addRule(-1, 'a', 'A', 'A', true, 0));
        CHECK.fails("7: language 2", IndexOutOfBoundsException.class, () -> x.addRule(2, 'A', 'A', 'A', true, 0));
        for (char wrong : new char[] {'@', '[', 'a', 0, 0xffff}) {
            CHECK.fails("7: category " + wrong, IllegalArgumentException.class,
                    () -> x.addRule(0, wrong, 'A', 'A', true, 0));
            CHECK.fails("7: left " + wrong, IllegalArgumentException.class,
                    () -> x.addRule(0, 'A', wrong, 'A', true, 0));
            CHECK.fails("7: right " + wrong, IllegalArgumentException.class,
                    () -> x.addRule(0, 'A', 'A', wrong, true, 0));
        }
        CHECK.fails("7: - as what it makes", IllegalArgumentException.class,
                () -> x.addRule(0, '-', 'A', 'A', true, 0));
        CHECK.fails("7: - on the left", IllegalArgumentException.class, () -> x.addRule(0, 'A', '-', 'A', true, 0));
        for (int wrong : new int[] {-1, 8, Integer.MIN_VALUE, Integer.MAX_VALUE}) {
            CHECK.fails("7: role " + wrong, IllegalArgumentException.class,
                    () -> x.addRule(0, 'A', 'A', 'A', true, wrong));
        }
        CHECK.fails("7: of one, the same", IllegalArgumentException.class, () -> x.addRule(0, 'B', 'B', '-', true, 0));
        CHECK.fails("7: of one, higher", IllegalArgumentException.class, () -> x.addRule(0, 'B', 'C', '-', true, 0));
        int[] ofNoMeaning = {-1, 8, Integer.MIN_VALUE, Integer.MAX_VALUE};
        for (int i = 0; i < ofNoMeaning.length; i++) {
            int role = ofNoMeaning[i];
            CHECK.is("7: of one, with the role " + role, x.addRule(0, 'B', 'A', '-', false, role), 3 + i);
            CHECK.fails("7: of one, the same, with the role " + role, IllegalArgumentException.class,
                    () -> x.addRule(0, 'B', 'B', '-', false, role));
        }
        for (int i = 7; i < 24; i++) {
            CHECK.is("7: rule " + i, x.addRule(0, 'A', 'B', 'C', true, 0), i);
        }
        CHECK.fails("7: the 25th", IllegalStateException.class, () -> x.addRule(0, 'A', 'B', 'C', true, 0));
        CHECK.fails("7: the 25th, of one, with a role of no meaning", IllegalStateException.class,
                () -> x.addRule(0, 'B', 'A', '-', true, -1));
        CHECK.fails("7: arguments come ahead of the limit", IllegalArgumentException.class,
                () -> x.addRule(0, 'A', 'B', '-', true, 0));
        CHECK.fails("7: the role comes ahead of the limit", IllegalArgumentException.class,
                () -> x.addRule(0, 'A', 'B', 'C', true, 8));
    }

    private static void setRule() {
        PhraseFerry x = new PhraseFerry();
        Check.rule(x, 0, "S=N+V*", 1);
        Check.rule(x, 0, "S=N", 0);
        CHECK.is("8: at first the weight is 0", x.setRule(0, 0, 7, 3, 9), 0);
        CHECK.is("8: the weight before", x.setRule(0, 0, 0, 0, 4), 9);
        CHECK.is("8: of one", x.setRule(0, 1, 0, 0, 1), 0);
        for (int wrong : new int[] {-1, 2, Integer.MIN_VALUE, Integer.MAX_VALUE}) {
            CHECK.fails("8: language " + wrong, IndexOutOfBoundsException.class,
                    () -> x.setRule(wrong, 0, 8, 0, 0));
            CHECK.fails("8: rule " + wrong, IndexOutOfBoundsException.class, () -> x.setRule(0, wrong, 8, 0, 0));
        }
        CHECK.fails("8: a rule of the other language", IndexOutOfBoundsException.class,
                () -> x.setRule(1, 0, 0, 0, 0));
        int weight = 1;
        for (int fit : new int[] {-1, 8, Integer.MIN_VALUE, Integer.MAX_VALUE}) {
            CHECK.fails("8: fit " + fit, IllegalArgumentException.class, () -> x.setRule(0, 0, fit, 0, 0));
            CHECK.is("8: of one, with the fit " + fit, x.setRule(0, 1, fit, 0, weight + 1), weight);
            CHECK.fails("8: of one, with the fit " + fit + " and a wrong case", IllegalArgumentException.class,
                    () -> x.setRule(0, 1, fit, 4, 0));
            CHECK.fails("8: of one, with the fit " + fit + " and a wrong weight", IllegalArgumentException.class,
                    () -> x.setRule(0, 1, fit, 0, 10));
            weight++;
        }
        int[][] wrongs = {{0, -1, 0}, {0, 4, 0}, {0, 0, -1}, {0, 0, 10},
            {0, Integer.MAX_VALUE, 0}, {0, 0, Integer.MAX_VALUE}};
        for (int[] wrong : wrongs) {
            for (int rule = 0; rule < 2; rule++) {
                int number = rule;
                CHECK.fails("8: " + wrong[0] + " " + wrong[1] + " " + wrong[2], IllegalArgumentException.class,
                        () -> x.setRule(0, number, wrong[0], wrong[1], wrong[2]));
            }
        }
        CHECK.is("8: a throw changes nothing", x.setRule(0, 0, 0, 0, 0), 4);
        CHECK.is("8: nor that of one", x.setRule(0, 1, 0, 0, 0), weight);
    }

    /** What is of no meaning for a rule of one changes no answer. */
    private static void ruleOfOne() {
        String due = answersWithRuleOfOne(true, 0, 0);
        CHECK.is("7, 8: answers with a rule of one", due, "3 1 33 2(3:1) 4(3:3) w x y e 1 3 true");
        for (int number : new int[] {1, 3, 7, 8, -1, 63, Integer.MIN_VALUE, Integer.MAX_VALUE}) {
            CHECK.is("7: the role " + number, answersWithRuleOfOne(false, number, 0), due);
            CHECK.is("8: the fit " + number, answersWithRuleOfOne(false, 0, number), due);
            CHECK.is("7, 8: both " + number, answersWithRuleOfOne(true, number, number), due);
        }
    }

    /** Both languages read "N V" as a V, which a rule of one with the case 1 and the weight 1 makes an S. */
    private static String answersWithRuleOfOne(boolean isLeftHead, int role, int fit) {
        PhraseFerry x = new PhraseFerry();
        for (int language = 0; language < 2; language++) {
            Check.ending(x, language, "", 'N', 0);
            Check.ending(x, language, "", 'V', 0);
            Check.stem(x, language, language == 0 ? "a" : "x", 'N', 1 + 2 * language, 0);
            Check.stem(x, language, language == 0 ? "b" : "y", 'V', 2 + 2 * language, 32);
            x.addTransfer(0, 1 + language, -1, 3 + language);
            Check.rule(x, language, "V=N+V*", 3);
            x.setRule(language, x.addRule(language, 'W', 'V', '-', isLeftHead, role), fit, 1, 1);
            x.setRule(language, x.addRule(language, 'S', 'N', '-', isLeftHead, role), fit, 2, 0);
            Check.rule(x, language, "S=N+W*", 3);
        }
        Check.say(x, "a b");
        StringBuilder out = new StringBuilder().append(x.items(0, 2)).append(' ').append(x.weight(0, 2, 'S'))
                .append(' ').append(x.features(0, 2, 'S')).append(' ').append(Check.meaning(x, 0, 2, 'S'));
        x.writeTransferred();
        return out.append(' ').append(Check.written(x)).append(' ').append(Check.translated(x)).append(' ')
                .append(x.back()).append(' ').append(x.pieces()).append(' ').append(x.found()).append(' ')
                .append(x.isSound()).toString();
    }

    private static void addTransfer() {
        PhraseFerry x = new PhraseFerry();
        CHECK.is("9: the first", x.addTransfer(0, 0, -1, 59), 1);
        CHECK.is("9: with a context", x.addTransfer(0, 59, 59, 0), 2);
        CHECK.is("9: of another language", x.addTransfer(1, 0, 0, 0), 1);
        CHECK.fails("9: language -1", IndexOutOfBoundsException.class, () -> x.addTransfer(-1, 60, 0, 0));
        CHECK.fails("9: language 2", IndexOutOfBoundsException.class, () -> x.addTransfer(2, 0, 0, 0));
        int[][] wrongs = {{-1, 0, 0}, {60, 0, 0}, {0, -2, 0}, {0, 60, 0}, {0, 0, -1}, {0, 0, 60},
            {Integer.MAX_VALUE, 0, 0}, {0, Integer.MIN_VALUE, 0}, {0, 0, Integer.MIN_VALUE}};
        for (int[] wrong : wrongs) {
            CHECK.fails("9: " + wrong[0] + " " + wrong[1] + " " + wrong[2], IllegalArgumentException.class,
                    () -> x.addTransfer(0, wrong[0], wrong[1], wrong[2]));
        }
        for (int i = 3; i <= 40; i++) {
            CHECK.is("9: transfer " + i, x.addTransfer(0, 0, 0, 0), i);
        }
        CHECK.fails("9: the 41st", IllegalStateException.class, () -> x.addTransfer(0, 0, 0, 0));
        CHECK.fails("9: arguments come ahead of the limit", IllegalArgumentException.class,
                () -> x.addTransfer(0, 60, 0, 0));
    }

    private static void turnRole() {
        PhraseFerry x = new PhraseFerry();
        for (int role = 0; role < 8; role++) {
            CHECK.is("10: role " + role + " stays at first", x.turnRole(0, role, 7 - role), role);
        }
        CHECK.is("10: what it became", x.turnRole(0, 2, 2), 5);
        CHECK.is("10: the other language", x.turnRole(1, 2, 3), 2);
        for (int wrong : new int[] {-1, 8, Integer.MIN_VALUE, Integer.MAX_VALUE}) {
            CHECK.fails("10: language " + wrong, IndexOutOfBoundsException.class, () -> x.turnRole(wrong, 9, 0));
            CHECK.fails("10: role " + wrong, IllegalArgumentException.class, () -> x.turnRole(0, wrong, 0));
            CHECK.fails("10: target " + wrong, IllegalArgumentException.class, () -> x.turnRole(0, 2, wrong));
        }
        CHECK.fails("10: language 2", IndexOutOfBoundsException.class, () -> x.turnRole(2, 0, 0));
        CHECK.is("10: a throw changes nothing", x.turnRole(0, 2, 2), 2);
    }
}
