import java.io.IOException;
import java.nio.file.Files;
import java.nio.file.Path;
import java.util.BitSet;
import java.util.Map;
import java.util.TreeMap;

/**
 * Which sentence of the document an answer is due to. A sentence that is not to be found in its section, one without an
 * answer, and words of the document that no sentence names are wrong like an answer that is not as due.
 */
final class Sentences {
    static final int WHOLE = -1, TERMS = 0, PROMISES = 43;

    private final Map<Integer, String> sections = new TreeMap<>();
    private final Map<Integer, BitSet> named = new TreeMap<>();
    private int promise = WHOLE;
    private String words = "";
    private int answersHere = 1;
    private int sentences = 0;
    private int answers = 0;
    private int wrong = 0;

    Sentences(Path document) throws IOException {
        if (!Files.isReadable(document)) {
            // what the calls answer can be tested without it
            System.out.println("no " + document + ": the sentences are not looked up");
            return;
        }
        for (String section : Files.readString(document).split("(?m)^## ")) {
            int line = section.indexOf('\n');
            if (line > 0) {
                addSection(section.substring(0, line).trim(), section.substring(line));
            }
        }
    }

    private void addSection(String title, String text) {
        if (title.equals("What it is")) {
            put(WHOLE, text);
        } else if (title.equals("Terms")) {
            // what the interface says ahead of some calls is their order alone
            int ahead = text.indexOf("Ahead of the calls");
            put(TERMS, ahead < 0 ? text : text.substring(0, ahead));
        } else if (title.startsWith("Promise ")) {
            int number = Integer.parseInt(title.substring(8, title.indexOf(':')));
            put(number, text.replaceFirst("`[^`]*`: ", ""));
        }
    }

    private void put(int number, String text) {
        sections.put(number, text.replaceAll("```\\w*", " ").replaceAll("\\s+", " "));
        named.put(number, new BitSet());
    }

    void of(int number, String sentence) {
        endSentence();
        promise = number;
        words = sentence;
        answersHere = 0;
        sentences++;
        if (sections.isEmpty()) {
            return;
        }
        String section = sections.getOrDefault(number, "");
        int at = section.indexOf(sentence);
        if (at < 0) {
            tellWrong("is not what the document says");
        }
        while (at >= 0) {
            named.get(number).set(at, at + sentence.length());
            at = section.indexOf(sentence, at + 1);
        }
    }

    void due(String call, long got, long want) {
        answers++;
        answersHere++;
        if (got != want) {
            tellWrong(call + " answered " + got + ", due is " + want);
        }
    }

    private void endSentence() {
        if (answersHere == 0) {
            tellWrong("has no answer that is due to it");
        }
    }

    private void tellWrong(String what) {
        wrong++;
        if (wrong <= 50) {
            String where = promise == WHOLE ? "What it is" : promise == TERMS ? "Terms" : "Promise " + promise;
            System.out.println(where + ", '" + words + "': " + what);
        }
    }

    /** Every word of the terms and of each promise must stand in a sentence that some test names. */
    private void findUnnamed() {
        for (int number = TERMS; number <= PROMISES && !sections.isEmpty(); number++) {
            promise = number;
            String section = sections.getOrDefault(number, "");
            words = "";
            if (section.isEmpty()) {
                tellWrong("there is no such section");
                continue;
            }
            BitSet told = named.get(number);
            for (int from = told.nextClearBit(0); from < section.length(); from = told.nextClearBit(from)) {
                int to = told.nextSetBit(from);
                to = to < 0 ? section.length() : to;
                if (section.substring(from, to).matches(".*[A-Za-z].*")) {
                    words = section.substring(from, to);
                    tellWrong("no test names these words");
                }
                from = to;
            }
        }
    }

    void finish(String name) {
        endSentence();
        findUnnamed();
        System.out.println(name + ": " + sentences + " sentences, " + answers + " answers, " + wrong + " not as due");
        if (wrong != 0 || answers == 0) {
            System.exit(1);
        }
    }
}
