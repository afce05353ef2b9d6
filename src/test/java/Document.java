import java.io.IOException;
import java.nio.file.Files;
import java.nio.file.Path;
import java.util.ArrayList;
import java.util.Arrays;
import java.util.List;
import java.util.TreeMap;
import java.util.regex.Matcher;
import java.util.regex.Pattern;

/** The words of DOC.md that promise something, and which of them the tests have claimed. */
final class Document {
    private static final Pattern PART = Pattern.compile("(?m)^## (Terms|Promise (\\d+):.*)$");

    private final TreeMap<Integer, String> parts = new TreeMap<>();
    private final TreeMap<Integer, boolean[]> claimed = new TreeMap<>();

    Document(Path file) throws IOException {
        String text = Files.readString(file);
        Matcher part = PART.matcher(text);
        while (part.find()) {
            int end = text.indexOf("\n## ", part.end());
            int number = part.group(2) == null ? Sentence.TERMS : Integer.parseInt(part.group(2));
            String words = withoutFaces(text.substring(part.end(), end < 0 ? text.length() : end));
            parts.put(number, words);
            claimed.put(number, new boolean[words.length()]);
        }
    }

    /** FaceTest has the declarations; the order in which the face tells its calls, and titles, promise nothing. */
    private static String withoutFaces(String part) {
        return part.replaceAll("(?m)^`[^`]*\\)( throws [^`]*)?`: ", "")
            .replaceAll("(?m)^Ahead of the calls .*$", "")
            .replaceAll("(?m)^(Elections|Early votes|Counting|Seats|Lots)\\. ", "");
    }

    int promises() {
        return parts.size() - 1;
    }

    /** Answers whether the words stand in the part. */
    boolean claim(int promise, String words) {
        String part = parts.getOrDefault(promise, "");
        int at = part.indexOf(words);
        boolean isThere = at >= 0 && !words.isEmpty();
        while (at >= 0 && isThere) {
            Arrays.fill(claimed.get(promise), at, at + words.length(), true);
            at = part.indexOf(words, at + words.length());
        }
        return isThere;
    }

    List<String> unclaimed() {
        List<String> left = new ArrayList<>();
        for (int promise : parts.keySet()) {
            StringBuilder words = new StringBuilder();
            String part = parts.get(promise);
            for (int at = 0; at < part.length(); at++) {
                words.append(claimed.get(promise)[at] ? '\n' : part.charAt(at));
            }
            for (String line : words.toString().split("\n+")) {
                if (line.matches(".*[A-Za-z0-9].*")) {
                    left.add((promise == Sentence.TERMS ? "Terms: " : "Promise " + promise + ": ") + line.trim());
                }
            }
        }
        return left;
    }
}
