import java.io.IOException;
import java.nio.file.Files;
import java.nio.file.Path;
import java.util.ArrayList;
import java.util.BitSet;
import java.util.LinkedHashMap;
import java.util.List;
import java.util.Map;
import java.util.regex.Matcher;
import java.util.regex.Pattern;

/** The document, part by part, and which of its words a test has been written for. */
final class Document {
    /** Words by which a sentence names a boundary case, or a refused call. */
    private static final Pattern BOUNDARY = Pattern.compile("\\bNONE\\b|-2\\b|-1000000|nothing happens|[Ww]ithout"
            + "|at most|at least|\\b\\d+ to \\d+|\\d and on|too many|too deep|if there (?:is|are)|below|above|as far as"
            + "|of several|the rest|its rest|none\\b|no more|alone|empty|third DAY|goes round|else\\b|instead|once\\b"
            + "|of one place|seventh|fifth|13th|second river|the first|at first|lost|the last|even|alike", Pattern.CASE_INSENSITIVE);

    private final Map<String, String> parts = new LinkedHashMap<>();
    private final Map<String, BitSet> tested = new LinkedHashMap<>();

    Document(Path file) throws IOException {
        String text = Files.readString(file).replaceAll("```(text|java)?", " ");
        for (String part : text.split("(?m)^## ")) {
            String name = part.lines().findFirst().orElse("").replaceAll("^Promise (\\d+):.*", "$1").trim();
            String body = part.substring(part.indexOf('\n') + 1);
            if (name.equals("Terms")) {
                String[] terms = body.split("==== III?\\. ");
                put("I", terms[0]);
                put("II", terms[1]);
                put("III", terms[2]);
            } else {
                put(name, body);
            }
        }
    }

    private void put(String name, String body) {
        parts.put(name, body.replaceAll("\\s+", " ").trim());
        tested.put(name, new BitSet());
    }

    /** Notes that a test was written for a sentence of a part: false if it does not stand there. */
    boolean has(String part, String sentence) {
        int at = parts.getOrDefault(part, "").indexOf(sentence);
        if (at < 0) {
            return false;
        }
        tested.get(part).set(at, at + sentence.length());
        return true;
    }

    /** Where words of a boundary case stand for which no test was written. */
    List<String> untested() {
        List<String> all = new ArrayList<>();
        for (String part : parts.keySet()) {
            if (part.matches("I+|\\d+")) {
                String text = parts.get(part);
                Matcher word = BOUNDARY.matcher(text);
                while (word.find()) {
                    if (!tested.get(part).get(word.start())) {
                        all.add(part + ": .. " + text.substring(Math.max(0, word.start() - 40),
                                Math.min(text.length(), word.end() + 40)) + " ..");
                    }
                }
                if (tested.get(part).isEmpty()) {
                    all.add(part + ": all of it");
                }
            }
        }
        return all;
    }

    int parts() {
        return parts.size();
    }
}
