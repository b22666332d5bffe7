import java.util.HashSet;
import java.util.Set;

/** Counts the answers that are not as due, and ends the program accordingly. */
final class Checks {
    private final Set<String> sentences = new HashSet<>();
    private String sentence = "";
    private int checksOfSentence;
    private int wrong;

    /** What is due from here on is due by this sentence of the document. */
    void sentence(String text) {
        endSentence();
        sentence = text;
        sentences.add(text);
        checksOfSentence = 0;
    }

    void due(String what, long got, long want) {
        checksOfSentence++;
        if (got != want) {
            fault(what + " answered " + got + ", due is " + want);
        }
    }

    void due(String what, boolean got, boolean want) {
        due(what, got ? 1L : 0L, want ? 1L : 0L);
    }

    private void fault(String text) {
        wrong++;
        System.out.println(sentence.isEmpty() ? text : "[" + sentence + "] " + text);
    }

    private void endSentence() {
        if (!sentence.isEmpty() && checksOfSentence == 0) {
            fault("nothing was checked");
        }
    }

    void end() {
        endSentence();
        if (!sentences.isEmpty()) {
            System.out.println(sentences.size() + " sentences were tested");
        }
        System.out.println(wrong == 0 ? "all answers are as due" : wrong + " answers are not as due");
        if (wrong != 0) {
            System.exit(1);
        }
    }
}
