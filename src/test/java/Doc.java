import java.io.IOException;
import java.nio.file.Files;
import java.nio.file.Path;
import java.util.regex.Matcher;
import java.util.regex.Pattern;

/**
 * The document's own words: a test names those it is for, and in the end every word of the terms and of each promise
 * must have been named. Part 0 is the terms, the others are the promises.
 */
final class Doc {
    static final int TERMS = 0;
    private static final int PROMISES = 32;

    private final String[] parts = new String[PROMISES + 1];
    private final boolean[][] named = new boolean[PROMISES + 1][];
    private final Check check;
    private String words = "";

    Doc(Check check) {
        this.check = check;
        String text = read();
        for (int part = 0; part <= PROMISES; part++) {
            String head = part == TERMS ? "## Terms\n" : "## Promise " + part + ": [^\n]*\n";
            Matcher m = Pattern.compile(head + "(.*?)\n(?:The constants:|## )", Pattern.DOTALL).matcher(text);
            parts[part] = m.find() ? plain(m.group(1)) : "";
            named[part] = new boolean[parts[part].length()];
            check.due("part " + part + " of the document is there", parts[part].isEmpty(), false);
        }
    }

    private static String read() {
        try {
            return Files.readString(Path.of(System.getProperty("overfirst.doc", "../shared/DOC.md")));
        } catch (IOException e) {
            throw new IllegalStateException("the document can't be read", e);
        }
    }

    /** Without a promise's signature, fences, the numbers of the terms' parts and line ends. */
    private static String plain(String text) {
        return text.replaceAll("(?m)^`[^`]*`: ?", "").replaceAll("```(text)?|==== [0-9]+\\.", "").replaceAll("\\s+", " ").trim();
    }

    /** What is tested from here on. */
    void says(int part, String sentence) {
        words = (part == TERMS ? "terms" : "promise " + part) + ", \"" + sentence + "\": ";
        int at = parts[part].indexOf(sentence);
        check.due(words + "is in the document", at >= 0, true);
        for (; at >= 0; at = parts[part].indexOf(sentence, at + 1)) {
            for (int i = at; i < at + sentence.length(); i++) {
                named[part][i] = true;
            }
        }
    }

    String words() {
        return words;
    }

    /** Every word of a part must have been named. */
    void isNamedWhole(int part) {
        StringBuilder left = new StringBuilder();
        for (int i = 0; i < parts[part].length(); i++) {
            char c = named[part][i] ? '_' : parts[part].charAt(i);
            if (Character.isLetterOrDigit(c)) {
                left.append(c);
            } else if (left.length() > 0 && left.charAt(left.length() - 1) != ' ') {
                left.append(' ');
            }
        }
        check.due("words of part " + part + " that no test names: " + left.toString().trim(), left.toString().isBlank(), true);
    }

    void isNamedWhole() {
        for (int part = 0; part <= PROMISES; part++) {
            isNamedWhole(part);
        }
    }
}
