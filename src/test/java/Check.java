import java.util.ArrayList;
import java.util.List;

/** Counts what is wrong in a test, and ends it. */
final class Check {
    interface Call {
        Object answer();
    }

    private final String test;
    private int checks;
    private int wrong;

    Check(String test) {
        this.test = test;
    }

    void is(String what, Object got, Object want) {
        checks++;
        if (!got.equals(want)) {
            wrong++;
            System.out.println(test + ": " + what + " is " + got + ", due is " + want);
        }
    }

    /** The call throws just this class, not one below it, and throws it itself. */
    void fails(String what, Class<? extends RuntimeException> due, Call call) {
        is(what, answerOf(call), due.getSimpleName());
    }

    void end() {
        System.out.println(test + ": " + checks + " checks, " + wrong + " wrong");
        if (wrong > 0 || checks == 0) {
            System.exit(1);
        }
    }

    /** The answer as text, or the name of what is thrown. */
    static String answerOf(Call call) {
        try {
            return String.valueOf(call.answer());
        } catch (RuntimeException e) {
            return (isThrownByFerry(e) ? "" : "by the machine: ") + e.getClass().getSimpleName();
        }
    }

    /** What the machine or its library throws has its own place on top, or none. */
    private static boolean isThrownByFerry(RuntimeException e) {
        StackTraceElement[] places = e.getStackTrace();
        return places.length > 0 && List.of("PhraseFerry", "PlainFerry").contains(places[0].getClassName());
    }

    // ---- calls that tests need often

    static void type(PhraseFerry x, String letters) {
        for (char letter : letters.toCharArray()) {
            x.type(letter);
        }
    }

    static int stem(PhraseFerry x, int language, String letters, char category, int meaning, int features) {
        type(x, letters);
        return x.addStem(language, category, meaning, features, false);
    }

    static int counted(PhraseFerry x, int language, String letters, char category, int meaning, int features) {
        type(x, letters);
        return x.addStem(language, category, meaning, features, true);
    }

    static int ending(PhraseFerry x, int language, String letters, char category, int features) {
        type(x, letters);
        return x.addEnding(language, category, features);
    }

    static int rule(PhraseFerry x, int language, String shape, int role) {
        // "S=N+V*": S of N and V, of which V is the head; "S=N": a rule of one.
        boolean isOfOne = shape.indexOf('+') < 0;
        char right = isOfOne ? '-' : shape.charAt(shape.indexOf('+') + 1);
        boolean isLeftHead = shape.indexOf("*+") > 0;
        return x.addRule(language, shape.charAt(0), shape.charAt(2), right, isLeftHead, role);
    }

    static int rule(PhraseFerry x, int language, String shape, int role, int fit, int govern, int weight) {
        int number = rule(x, language, shape, role);
        x.setRule(language, number, fit, govern, weight);
        return number;
    }

    static void say(PhraseFerry x, String words) {
        for (String word : words.split(" ")) {
            type(x, word);
            x.addWord();
        }
    }

    static String written(PhraseFerry x) {
        StringBuilder out = new StringBuilder();
        while (true) {
            try {
                out.append(x.charAt(out.length()));
            } catch (IndexOutOfBoundsException e) {
                return out.toString();
            }
        }
    }

    static String form(PhraseFerry x, int language, int stem, int ending) {
        int length = x.write(language, stem, ending);
        String text = written(x);
        return length == text.length() ? text : "length " + length + " of " + text;
    }

    static String meaning(PhraseFerry x, int from, int to, char category) {
        int length = x.writeMeaning(from, to, category);
        String text = written(x);
        return length == text.length() ? text : "length " + length + " of " + text;
    }

    /** The answer of translate(), a blank, and the output. */
    static String translated(PhraseFerry x) {
        char answer = x.translate();
        return answer + " " + written(x);
    }

    /** The reasons, each with its meaning. */
    static List<String> reasons(PhraseFerry x) {
        List<String> reasons = new ArrayList<>();
        for (int i = 0; i < x.reasons(); i++) {
            reasons.add(x.reason(i) + "" + x.reasonMeaning(i));
        }
        return reasons;
    }
}
