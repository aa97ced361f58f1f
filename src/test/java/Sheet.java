import java.io.IOException;
import java.nio.file.Files;
import java.nio.file.Path;
import java.util.ArrayList;
import java.util.LinkedHashMap;
import java.util.List;
import java.util.Map;

/**
 * A sheet of checks, each under the sentence of the document that it checks. At the end the sentences are looked for in
 * the document, section by section: each must stand there, and no word there may stand in none of them.
 */
final class Sheet {
    private static final String TITLE = "# GymDesk";

    private final Map<String, List<String>> sentences = new LinkedHashMap<>();
    private String section = "";
    private String sentence = "";
    private int checksOfSentence = 1;
    private int checks = 0;
    private int wrong = 0;

    /** A section's heading, as it stands in the document, comes ahead of its sentences. */
    void section(String heading) {
        endSentence();
        section = heading;
        sentences.computeIfAbsent(section, s -> new ArrayList<>());
    }

    /** The sentence, or the part of one, that the checks from here on are about. */
    void says(String quote) {
        endSentence();
        sentence = quote;
        checksOfSentence = 0;
        sentences.get(section).add(quote);
    }

    /** Words of the section that say nothing which could be checked. */
    void passesOver(String quote) {
        endSentence();
        sentences.get(section).add(quote);
    }

    private void endSentence() {
        if (checksOfSentence == 0) {
            wrong++;
            System.out.println("no check of " + section + ": «" + sentence + "»");
        }
        checksOfSentence = 1;
    }

    void due(String what, long got, long want) {
        checks++;
        checksOfSentence++;
        if (got != want) {
            wrong++;
            System.out.println(section + ": «" + sentence + "»: " + what + " answered " + got + ", due is " + want);
        }
    }

    /** A text that is a code, on a new desk. */
    void good(String text, int parts) {
        GymDesk x = new GymDesk();
        due("code of «" + text + "»", Desks.code(x, text), parts);
        due("fault kind of «" + text + "»", x.fault(0), 0);
        due("fault place of «" + text + "»", x.fault(1), -1);
    }

    /** A text that is none, on a new desk. */
    void bad(String text, int kind, int place) {
        GymDesk x = new GymDesk();
        due("code of «" + text + "»", Desks.code(x, text), -1);
        due("fault kind of «" + text + "»", x.fault(0), kind);
        due("fault place of «" + text + "»", x.fault(1), place);
    }

    /** The sentences are compared with the document; whether all is right. */
    boolean ends(Path document) throws IOException {
        endSentence();
        if (Files.exists(document)) {
            compareWith(Files.readString(document));
        } else {
            System.out.println("the sentences were not compared: there is no " + document);
        }
        System.out.println("sentences: " + sentences.values().stream().mapToInt(List::size).sum() + ", " + checks
            + " checks, " + wrong + " wrong");
        return wrong == 0;
    }

    private void compareWith(String document) {
        for (String part : document.split("\n## ")) {
            int line = part.indexOf('\n');
            String heading = line < 0 ? part : part.substring(0, line);
            if (!heading.equals(TITLE) && !sentences.containsKey(heading)) {
                wrong++;
                System.out.println("no sentence of " + heading);
            }
            if (sentences.containsKey(heading)) {
                compareSection(heading, behindSignature(plain(part.substring(line + 1))));
            }
        }
    }

    private static String plain(String text) {
        return text.replaceAll("```[a-z]*|\\s+", " ").replaceAll(" +", " ");
    }

    private static String behindSignature(String text) {
        int end = text.indexOf("`: ");
        return text.startsWith(" `") && end >= 0 ? text.substring(end + 3) : text;
    }

    private void compareSection(String heading, String text) {
        boolean[] said = new boolean[text.length()];
        for (String quote : sentences.get(heading)) {
            int at = text.indexOf(quote);
            if (at < 0) {
                wrong++;
                System.out.println("not in " + heading + ": «" + quote + "»");
            }
            for (int k = at; at >= 0 && k < at + quote.length(); k++) {
                said[k] = true;
            }
        }
        for (int k = 0; k < text.length(); k++) {
            if (Character.isLetterOrDigit(text.charAt(k)) && !said[k]) {
                wrong++;
                System.out.println("in no sentence of " + heading + ": "
                    + text.substring(k, Math.min(text.length(), k + 60)));
                return;
            }
        }
    }
}
