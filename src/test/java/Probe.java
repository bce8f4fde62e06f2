import java.util.ArrayList;
import java.util.List;

/** What an object answers to all that can be asked of it, what it was told included; it is used up then. */
final class Probe {
    private final PhraseFerry x;
    private final List<String> answers = new ArrayList<>();

    private Probe(PhraseFerry x) {
        this.x = x;
    }

    static List<String> answers(PhraseFerry x) {
        Probe probe = new Probe(x);
        probe.askWhatWasWritten();
        probe.askTranslation();
        probe.askSentence();
        probe.askLetters();
        for (int language = 0; language < 2; language++) {
            probe.askLanguage(language);
        }
        return probe.answers;
    }

    private void ask(String name, Check.Call call) {
        answers.add(name + " " + Check.answerOf(call));
    }

    private void askWhatWasWritten() {
        ask("written", () -> Check.written(x));
    }

    private void askTranslation() {
        ask("pieces", x::pieces);
        ask("copied", x::copied);
        ask("reasons", () -> Check.reasons(x));
        ask("translations", x::translations);
        ask("wholeShare", x::wholeShare);
        ask("meanPieces", x::meanPieces);
        ask("back", x::back);
    }

    private void askSentence() {
        ask("found", x::found);
        ask("isSound", x::isSound);
        int words = x.words();
        answers.add("words " + words);
        for (int from = 0; from < words; from++) {
            int index = from;
            ask("analyses", () -> x.analyses(index));
            for (int to = from + 1; to <= words; to++) {
                int end = to;
                ask("items", () -> x.items(index, end));
            }
        }
        for (char category : "NPS".toCharArray()) {
            ask("readings", () -> x.readings(0, words, category));
            ask("meaning", () -> Check.meaning(x, 0, words, category));
        }
        ask("transferred", () -> x.writeTransferred() + " " + Check.written(x));
        ask("translate", () -> Check.translated(x));
    }

    /** The letters of the buffer, as the only word of a sentence. */
    private void askLetters() {
        ask("begin", () -> x.begin(1));
        ask("addWord", x::addWord);
        ask("copy", () -> Check.translated(x));
    }

    private void askLanguage(int language) {
        for (int role = 0; role < 8; role++) {
            int asked = role;
            ask("turnRole", () -> x.turnRole(language, asked, 0));
        }
        for (int rule = 0; rule < 3; rule++) {
            int asked = rule;
            ask("setRule", () -> x.setRule(language, asked, 0, 0, 0));
        }
        ask("write", () -> Check.form(x, language, 0, 0));
        ask("write", () -> Check.form(x, language, 1, 1));
        ask("addRule", () -> x.addRule(language, 'Z', 'Z', 'Z', true, 0));
        ask("addJoint", () -> x.addJoint(language, 'q', 'q', 'q', 'q'));
        ask("addTransfer", () -> x.addTransfer(language, 0, -1, 0));
        ask("addEnding", () -> x.addEnding(language, 'Z', 0));
        ask("addStem", () -> Check.stem(x, language, "q", 'Z', 0, 0));
    }
}
