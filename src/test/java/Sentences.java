import java.io.IOException;
import java.nio.file.Files;
import java.nio.file.Path;
import java.util.regex.Pattern;

/**
 * The sentences of the document that have a test, and the answers that they ask for. A sentence is named by its own
 * words, so that one without a test is found by reading the document itself.
 */
final class Sentences {
    private static final StringBuilder SAID = new StringBuilder();
    private static String now = "";
    private static int sentences;
    private static int lookedNow;
    private static int looked;
    private static int wrong;

    private Sentences() {
    }

    /** From here on the answers are those that this sentence asks for. */
    static void of(String words) {
        endOfSentence();
        now = words;
        lookedNow = 0;
        sentences++;
        SAID.append(words).append('\n');
    }

    /** From here on the answers are asked for by many sentences together. */
    static void together(String name) {
        endOfSentence();
        now = name;
        lookedNow = 0;
    }

    static void due(String what, int got, int want) {
        looked++;
        lookedNow++;
        if (got != want) {
            fault(what + ": answered " + got + ", due is " + want);
        }
    }

    static void due(String what, boolean got, boolean want) {
        due(what, got ? 1 : 0, want ? 1 : 0);
    }

    static void due(String what, String got, String want) {
        looked++;
        lookedNow++;
        if (!got.equals(want)) {
            fault(what + ": answered\n    " + got + "\n  due is\n    " + want);
        }
    }

    /** Ends the test: what is wrong, and which words of the document no test has named. */
    static void end() throws IOException {
        endOfSentence();
        now = "the document";
        Path document = Path.of("../shared/DOC.md");
        if (Files.isReadable(document)) {
            compareWith(Files.readString(document));
        }
        System.out.println(sentences + " sentences, " + looked + " answers, " + wrong + " faults");
        if (wrong != 0) {
            System.exit(1);
        }
    }

    private static void endOfSentence() {
        if (sentences > 0 && lookedNow == 0) {
            fault("no answer was looked at");
        }
    }

    private static void fault(String what) {
        wrong++;
        System.out.println("\"" + now + "\"\n  " + what);
    }

    private static void compareWith(String document) {
        String left = promised(document);
        for (String words : SAID.toString().split("\n")) {
            if (!left.contains(words)) {
                fault("the document does not say (or not so many times): " + words);
            }
            left = left.replaceFirst(Pattern.quote(words), "#");
        }
        for (String piece : left.split("#")) {
            if (piece.matches(".*\\w.*")) {
                fault("without a test: " + piece.trim());
            }
        }
    }

    /** The document's sentences in one line, without its headings, its face and the names of its parts. */
    private static String promised(String document) {
        int first = Math.max(0, document.indexOf("An object is used for"));
        int behind = document.indexOf("## Not promised");
        String text = document.substring(first, behind < first ? document.length() : behind);
        text = text.replaceAll("(?s)```java.*?```", " ").replaceAll("(?m)^## .*$", " ").replaceAll("(?m)^```.*$", " ");
        text = text.replaceAll("`[^`]*`:", " ").replace("RULES.", " ").replace("THE SEARCH.", " ");
        return text.replaceAll("\\s+", " ");
    }
}
