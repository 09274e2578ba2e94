import java.io.IOException;
import java.nio.file.Files;
import java.nio.file.Path;
import java.util.ArrayList;
import java.util.HashMap;
import java.util.List;
import java.util.Map;
import java.util.TreeSet;
import java.util.Set;

/** Words of the document: the checks behind them are of the case that they name. */
final class Sentence {
    private static final String DOCUMENT = document();
    private static final Map<Integer, String> PROMISES = promises();
    private static final List<String> QUOTED = new ArrayList<>();
    private static final Set<Integer> PROMISES_QUOTED = new TreeSet<>();
    private static int countAtLast;
    private static boolean isFirst = true;

    private Sentence() {
    }

    /** Words of the document, in whichever part of it. */
    static void of(String words) {
        begin(words);
        Check.due("the document has these words", true, () -> DOCUMENT.contains(words));
        QUOTED.add(words);
        countAtLast = Check.count();
    }

    /** Words of a promise. */
    static void of(int promise, String words) {
        begin(promise + ": " + words);
        String text = PROMISES.getOrDefault(promise, "");
        Check.due("the promise has these words", true, () -> text.contains(words));
        QUOTED.add(promise + ": " + words);
        PROMISES_QUOTED.add(promise);
        countAtLast = Check.count();
    }

    private static void begin(String words) {
        hasChecks();
        Check.about(words);
    }

    private static void hasChecks() {
        int before = countAtLast;
        if (!isFirst) {
            Check.due("there are checks of it", true, () -> Check.count() > before);
        }
        isFirst = false;
    }

    /** Every sentence of the terms and every exception of every promise was told. */
    static void dueAll() {
        hasChecks();
        Check.about("");
        for (String sentence : sentencesOfTerms()) {
            Check.due("a case of: " + sentence, true, () -> isQuoted(sentence));
        }
        for (int promise : PROMISES.keySet()) {
            Check.due("words of promise " + promise, true, () -> PROMISES_QUOTED.contains(promise));
            for (String part : PROMISES.get(promise).split("(?=Throws `)")) {
                String thrown = part.trim();
                if (thrown.startsWith("Throws `")) {
                    Check.due("promise " + promise + ", " + thrown, true,
                            () -> QUOTED.contains(promise + ": " + thrown));
                }
            }
        }
        Check.due("promises", 50, PROMISES::size);
    }

    private static boolean isQuoted(String sentence) {
        for (String words : QUOTED) {
            if (sentence.contains(words) || words.contains(sentence)) {
                return true;
            }
        }
        return false;
    }

    /** Headings of one word are none, nor is what the interface says ahead of calls. */
    private static List<String> sentencesOfTerms() {
        List<String> sentences = new ArrayList<>();
        String terms = DOCUMENT.substring(DOCUMENT.indexOf("## Terms") + 8, DOCUMENT.indexOf("## Promise 1:"));
        for (String sentence : terms.trim().split("(?<=\\.) ")) {
            if (sentence.contains(" ") && !sentence.startsWith("Ahead of the calls ")) {
                sentences.add(sentence);
            }
        }
        return sentences;
    }

    private static Map<Integer, String> promises() {
        Map<Integer, String> texts = new HashMap<>();
        String all = DOCUMENT.substring(0, DOCUMENT.indexOf("## Not promised"));
        for (String part : all.split("## Promise ")) {
            if (part.matches("\\d+: .*")) {
                texts.put(Integer.parseInt(part.substring(0, part.indexOf(':'))), part.trim());
            }
        }
        return texts;
    }

    /** The whole document, with one blank wherever it has blanks or ends of lines. */
    private static String document() {
        Path path = Path.of(System.getProperty("formatseer.document", "../shared/DOC.md"));
        try {
            return Files.readString(path).replaceAll("\\s+", " ");
        } catch (IOException missing) {
            throw new IllegalStateException("there is no document at " + path, missing);
        }
    }
}
