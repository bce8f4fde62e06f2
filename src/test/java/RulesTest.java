/** Promises 7 to 10: rules, what they ask for, transfers and roles. */
public final class RulesTest {
    private static final Check CHECK = new Check("RulesTest");

    public static void main(String[] args) {
        addRule();
        setRule();
        addTransfer();
        turnRole();
        CHECK.end();
    }

    private static void addRule() {
        PhraseFerry x = new PhraseFerry();
        CHECK.is("7: the first", x.addRule(0, 'A', 'A', 'A', true, 0), 0);
        CHECK.is("7: the last letters", x.addRule(0, 'Z', 'Z', 'Z', false, 7), 1);
        CHECK.is("7: of one", x.addRule(0, 'B', 'A', '-', true, 0), 2);
        CHECK.is("7: of another language", x.addRule(1, 'S', 'N', 'V', true, 1), 0);
        CHECK.fails("7: language -1", IndexOutOfBoundsException.class, () -> x.addRule(-1, 'a', 'A', 'A', true, 0));
        CHECK.fails("7: language 2", IndexOutOfBoundsException.class, () -> x.addRule(2, 'A', 'A', 'A', true, 0));
        for (char wrong : new char[] {'@', '[', 'a', 0, 0xffff}) {
            CHECK.fails("7: category " + wrong, IllegalArgumentException.class,
                    () -> x.addRule(0, wrong, 'A', 'A', true, 0));
            CHECK.fails("7: left " + wrong, IllegalArgumentException.class,
                    () -> x.addRule(0, 'A', wrong, 'A', true, 0));
            CHECK.fails("7: right " + wrong, IllegalArgumentException.class,
                    () -> x.addRule(0, 'A', 'A', wrong, true, 0));
        }
        CHECK.fails("7: - as what it makes", IllegalArgumentException.class,
                () -> x.addRule(0, '-', 'A', 'A', true, 0));
        CHECK.fails("7: - on the left", IllegalArgumentException.class, () -> x.addRule(0, 'A', '-', 'A', true, 0));
        for (int wrong : new int[] {-1, 8, Integer.MIN_VALUE, Integer.MAX_VALUE}) {
            CHECK.fails("7: role " + wrong, IllegalArgumentException.class,
                    () -> x.addRule(0, 'A', 'A', 'A', true, wrong));
            CHECK.fails("7: role of one " + wrong, IllegalArgumentException.class,
                    () -> x.addRule(0, 'B', 'A', '-', true, wrong));
        }
        CHECK.fails("7: of one, the same", IllegalArgumentException.class, () -> x.addRule(0, 'B', 'B', '-', true, 0));
        CHECK.fails("7: of one, higher", IllegalArgumentException.class, () -> x.addRule(0, 'B', 'C', '-', true, 0));
        for (int i = 3; i < 24; i++) {
            CHECK.is("7: rule " + i, x.addRule(0, 'A', 'B', 'C', true, 0), i);
        }
        CHECK.fails("7: the 25th", IllegalStateException.class, () -> x.addRule(0, 'A', 'B', 'C', true, 0));
        CHECK.fails("7: arguments come ahead of the limit", IllegalArgumentException.class,
                () -> x.addRule(0, 'A', 'B', '-', true, 0));
    }

    private static void setRule() {
        PhraseFerry x = new PhraseFerry();
        Check.rule(x, 0, "S=N+V*", 1);
        Check.rule(x, 0, "S=N", 0);
        CHECK.is("8: at first the weight is 0", x.setRule(0, 0, 7, 3, 9), 0);
        CHECK.is("8: the weight before", x.setRule(0, 0, 0, 0, 4), 9);
        CHECK.is("8: of one", x.setRule(0, 1, 0, 0, 1), 0);
        for (int wrong : new int[] {-1, 2, Integer.MIN_VALUE, Integer.MAX_VALUE}) {
            CHECK.fails("8: language " + wrong, IndexOutOfBoundsException.class,
                    () -> x.setRule(wrong, 0, 8, 0, 0));
            CHECK.fails("8: rule " + wrong, IndexOutOfBoundsException.class, () -> x.setRule(0, wrong, 8, 0, 0));
        }
        CHECK.fails("8: a rule of the other language", IndexOutOfBoundsException.class,
                () -> x.setRule(1, 0, 0, 0, 0));
        int[][] wrongs = {{-1, 0, 0}, {8, 0, 0}, {0, -1, 0}, {0, 4, 0}, {0, 0, -1}, {0, 0, 10},
            {Integer.MIN_VALUE, 0, 0}, {0, Integer.MAX_VALUE, 0}, {0, 0, Integer.MAX_VALUE}};
        for (int[] wrong : wrongs) {
            for (int rule = 0; rule < 2; rule++) {
                int number = rule;
                CHECK.fails("8: " + wrong[0] + " " + wrong[1] + " " + wrong[2], IllegalArgumentException.class,
                        () -> x.setRule(0, number, wrong[0], wrong[1], wrong[2]));
            }
        }
        CHECK.is("8: a throw changes nothing", x.setRule(0, 0, 0, 0, 0), 4);
        CHECK.is("8: nor that of one", x.setRule(0, 1, 0, 0, 0), 1);
    }

    private static void addTransfer() {
        PhraseFerry x = new PhraseFerry();
        CHECK.is("9: the first", x.addTransfer(0, 0, -1, 59), 1);
        CHECK.is("9: with a context", x.addTransfer(0, 59, 59, 0), 2);
        CHECK.is("9: of another language", x.addTransfer(1, 0, 0, 0), 1);
        CHECK.fails("9: language -1", IndexOutOfBoundsException.class, () -> x.addTransfer(-1, 60, 0, 0));
        CHECK.fails("9: language 2", IndexOutOfBoundsException.class, () -> x.addTransfer(2, 0, 0, 0));
        int[][] wrongs = {{-1, 0, 0}, {60, 0, 0}, {0, -2, 0}, {0, 60, 0}, {0, 0, -1}, {0, 0, 60},
            {Integer.MAX_VALUE, 0, 0}, {0, Integer.MIN_VALUE, 0}, {0, 0, Integer.MIN_VALUE}};
        for (int[] wrong : wrongs) {
            CHECK.fails("9: " + wrong[0] + " " + wrong[1] + " " + wrong[2], IllegalArgumentException.class,
                    () -> x.addTransfer(0, wrong[0], wrong[1], wrong[2]));
        }
        for (int i = 3; i <= 40; i++) {
            CHECK.is("9: transfer " + i, x.addTransfer(0, 0, 0, 0), i);
        }
        CHECK.fails("9: the 41st", IllegalStateException.class, () -> x.addTransfer(0, 0, 0, 0));
        CHECK.fails("9: arguments come ahead of the limit", IllegalArgumentException.class,
                () -> x.addTransfer(0, 60, 0, 0));
    }

    private static void turnRole() {
        PhraseFerry x = new PhraseFerry();
        for (int role = 0; role < 8; role++) {
            CHECK.is("10: role " + role + " stays at first", x.turnRole(0, role, 7 - role), role);
        }
        CHECK.is("10: what it became", x.turnRole(0, 2, 2), 5);
        CHECK.is("10: the other language", x.turnRole(1, 2, 3), 2);
        for (int wrong : new int[] {-1, 8, Integer.MIN_VALUE, Integer.MAX_VALUE}) {
            CHECK.fails("10: language " + wrong, IndexOutOfBoundsException.class, () -> x.turnRole(wrong, 9, 0));
            CHECK.fails("10: role " + wrong, IllegalArgumentException.class, () -> x.turnRole(0, wrong, 0));
            CHECK.fails("10: target " + wrong, IllegalArgumentException.class, () -> x.turnRole(0, 2, wrong));
        }
        CHECK.fails("10: language 2", IndexOutOfBoundsException.class, () -> x.turnRole(2, 0, 0));
        CHECK.is("10: a throw changes nothing", x.turnRole(0, 2, 2), 2);
    }
}
