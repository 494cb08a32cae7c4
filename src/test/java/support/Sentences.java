import java.io.IOException;
import java.nio.file.Files;
import java.nio.file.Path;
import java.util.TreeMap;
import java.util.stream.IntStream;

/** Answers by the sentence of the document that they are due by; 0 stands for 'Terms', 1 to 29 for a promise. */
final class Sentences {
    static final int TERMS = 0;
    private static final int PROMISES = 29;

    private final String document;
    private final TreeMap<Integer, Integer> sentences = new TreeMap<>();
    private int promise;
    private String sentence = "";
    private int askedHere = 1;
    private int asked;
    private int wrong;

    Sentences() {
        document = plain(read(Path.of("../shared/DOC.md")));
    }

    private static String read(Path path) {
        try {
            return Files.exists(path) ? Files.readString(path) : "";
        } catch (IOException e) {
            return "";
        }
    }

    private static String plain(String text) {
        return text.replaceAll("\\s+", " ");
    }

    /** The answers that follow are due by this; words that the document does not have are told as wrong. */
    void says(int ofPromise, String words) {
        closeSentence();
        promise = ofPromise;
        sentence = words;
        askedHere = 0;
        sentences.merge(ofPromise, 1, Integer::sum);
        if (!document.isEmpty() && !document.contains(plain(words))) {
            tell("the document does not say this");
        }
    }

    private void closeSentence() {
        if (askedHere == 0) {
            tell("nothing was asked of this");
        }
    }

    void is(String call, long got, long want) {
        asked++;
        askedHere++;
        if (got != want) {
            tell(call + " answered " + got + ", due is " + want);
        }
    }

    private void tell(String what) {
        wrong++;
        System.out.println((promise == TERMS ? "Terms" : "promise " + promise) + " '" + sentence + "': " + what);
    }

    /** Each promise needs a sentence, but for those that have none of this sort. */
    void end(String name, int... withoutAny) {
        closeSentence();
        for (int i = 1; i <= PROMISES; i++) {
            int promiseNumber = i;
            if (!sentences.containsKey(i) && IntStream.of(withoutAny).noneMatch(other -> other == promiseNumber)) {
                wrong++;
                System.out.println("no sentence of promise " + i);
            }
        }
        int all = sentences.values().stream().mapToInt(Integer::intValue).sum();
        System.out.println(name + ": " + all + " sentences, " + asked + " answers, " + wrong + " not as due");
        if (wrong != 0) {
            System.exit(1);
        }
    }
}
