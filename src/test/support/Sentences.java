import java.io.IOException;
import java.nio.file.Files;
import java.nio.file.Path;
import java.util.ArrayList;
import java.util.List;

/** Tests that each hold one sentence of the document, told by its own words and the part that it stands in. */
abstract class Sentences extends Checks {
    static final int[] NO_REGISTERS = {Integer.MIN_VALUE, -5, -1, 4, 5, 256, Integer.MAX_VALUE};
    static final int[] NO_BASES = {
        Integer.MIN_VALUE, -36, -16, -10, -2, -1, 0, 1, 37, 38, 64, 256 + 2, 256 + 10, 65536 + 16, Integer.MAX_VALUE};
    static final String NO_REGISTER = "Throws `IndexOutOfBoundsException` if there is no such register";

    private static final List<String> parts = new ArrayList<>();
    private static final List<String> quotes = new ArrayList<>();

    /** The test of one sentence; what it finds is reported with the sentence ahead. */
    static void sentence(String part, String words, Runnable test) {
        parts.add(part);
        quotes.add(words);
        about(part + ", '" + words + "': ");
        try {
            test.run();
        } catch (RuntimeException e) {
            report("ended by " + e);
        }
        about("");
    }

    static void sentence(int promise, String words, Runnable test) {
        sentence("Promise " + promise + ":", words, test);
    }

    /** Holds the sentences against the document, if its path is known, and ends the test. */
    static void endWith(String[] paths, String... ownParts) {
        if (paths.length > 1) {
            try {
                checkDocument(Files.readAllLines(Path.of(paths[1])), List.of(ownParts));
            } catch (IOException e) {
                report("the document can't be read: " + e);
            }
        }
        end(quotes.size() + " sentences hold");
    }

    static String[] promises(int from, int to) {
        String[] named = new String[to - from + 1];
        for (int i = 0; i < named.length; i++) {
            named[i] = "Promise " + (from + i) + ":";
        }
        return named;
    }

    private static void checkDocument(List<String> document, List<String> ownParts) {
        boolean[] isFound = new boolean[quotes.size()];
        String part = "";
        for (String line : document) {
            if (line.startsWith("## ")) {
                part = line.substring(3);
            } else if (!findQuotes(line, part, isFound) && isOwn(part, ownParts) && isSentence(line)) {
                report("no test is for the line of '" + part + "': " + line);
            }
        }
        for (int i = 0; i < isFound.length; i++) {
            if (!isFound[i]) {
                report("not in the document's part '" + parts.get(i) + "': " + quotes.get(i));
            }
        }
    }

    private static boolean findQuotes(String line, String part, boolean[] isFound) {
        boolean isQuoted = false;
        for (int i = 0; i < isFound.length; i++) {
            if (part.startsWith(parts.get(i)) && line.contains(quotes.get(i))) {
                isFound[i] = true;
                isQuoted = true;
            }
        }
        return isQuoted;
    }

    private static boolean isOwn(String part, List<String> ownParts) {
        return ownParts.stream().anyMatch(part::startsWith);
    }

    /** Rows of arguments and numbered headings are told by the sentences beside them. */
    private static boolean isSentence(String line) {
        return !line.isEmpty() && !line.startsWith("- `") && !line.matches("\\d\\. .*");
    }
}
