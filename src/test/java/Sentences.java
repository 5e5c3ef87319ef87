import java.nio.file.Files;
import java.nio.file.Path;
import java.util.ArrayList;
import java.util.Arrays;
import java.util.LinkedHashMap;
import java.util.List;
import java.util.Map;

/**
 * The sentences of the document, each with its test: a test names the words that it holds the class
 * to, and words of a section or a promise that no test names count as a wrong answer.
 */
final class Sentences {
    private final Map<String, String> texts = new LinkedHashMap<>();
    private final Map<String, boolean[]> named = new LinkedHashMap<>();
    private String place = "";
    private int held;

    /** Places are "section 3" or "promise 12", as the headings of the document number them. */
    Sentences(String kind, int first, int last) throws Exception {
        for (int i = first; i <= last; i++) {
            take(kind + " " + i);
        }
    }

    /** Places are the headings of the parts that have no number. */
    Sentences(String... parts) throws Exception {
        for (String part : parts) {
            take(part);
        }
    }

    private void take(String newPlace) throws Exception {
        Map<String, StringBuilder> found = read(Files.readAllLines(Path.of("../shared/DOC.md")));
        String text = found.getOrDefault(newPlace, new StringBuilder()).toString().replaceAll("\\s+", " ");
        texts.put(newPlace, text);
        named.put(newPlace, new boolean[text.length()]);
    }

    private static Map<String, StringBuilder> read(List<String> lines) {
        Map<String, StringBuilder> result = new LinkedHashMap<>();
        String current = "";
        for (String line : lines) {
            if (line.matches("== \\d+\\. .*")) {
                current = "section " + line.substring(3, line.indexOf('.'));
            } else if (line.matches("## Promise \\d+: .*")) {
                current = "promise " + line.substring(11, line.indexOf(':'));
            } else if (line.startsWith("## ")) {
                current = line.substring(3);
            } else if (line.startsWith("# ") || line.startsWith("Examples:")) {
                current = "";
            } else if (isPromising(line)) {
                result.computeIfAbsent(current, key -> new StringBuilder()).append(line).append('\n');
            }
        }
        return result;
    }

    /** Signatures are FaceTest's; a parameter's row like "the column" promises nothing. */
    private static boolean isPromising(String line) {
        boolean isPlainParameter = line.matches("- `\\w+`: (a|the) \\w+");
        return !line.startsWith("`") && !line.startsWith("---- ") && !isPlainParameter;
    }

    void at(String newPlace) {
        place = newPlace;
    }

    /** Runs the test of these words, which stand in the document at the place of now. */
    void hold(String words, Runnable test) {
        int from = texts.getOrDefault(place, "").indexOf(words);
        Check.within = place + ", \"" + words + "\": ";
        Check.due("the document has these words", from >= 0, true);
        if (from >= 0) {
            Arrays.fill(named.get(place), from, from + words.length(), true);
        }
        held++;
        int before = Check.made();
        test.run();
        Check.due("its test checks something", Check.made() > before, true);
        Check.within = "";
    }

    void end() {
        for (String each : texts.keySet()) {
            Check.due(each + " stands in the document", texts.get(each).isBlank(), false);
            Check.due(each + ", words without a test", unnamed(texts.get(each), named.get(each)), new ArrayList<String>());
        }
        System.out.println(held + " sentences");
        Check.end();
    }

    private static List<String> unnamed(String text, boolean[] isNamed) {
        List<String> result = new ArrayList<>();
        StringBuilder part = new StringBuilder();
        for (int i = 0; i <= text.length(); i++) {
            if (i < text.length() && !isNamed[i]) {
                part.append(text.charAt(i));
            } else if (part.length() > 0) {
                if (part.toString().matches(".*[A-Za-z0-9].*")) {
                    result.add(part.toString().trim());
                }
                part.setLength(0);
            }
        }
        return result;
    }
}
