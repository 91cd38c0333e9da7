import java.io.IOException;
import java.nio.file.Files;
import java.nio.file.Path;
import java.util.ArrayList;
import java.util.Comparator;
import java.util.LinkedHashMap;
import java.util.List;
import java.util.Map;
import java.util.regex.Matcher;
import java.util.regex.Pattern;

/** The words of the document that have a test, and the few that need none. */
final class Sentences {
    private static final Path DOCUMENT = Path.of("../shared/DOC.md");
    /** The face has LanguageTest; what is not promised has no test. */
    private static final List<String> ELSEWHERE = List.of("The public face", "Not promised");

    private static final List<String[]> quotes = new ArrayList<>();

    private Sentences() {
    }

    /** Words of a chapter that the next answers are due by. */
    static void tested(String chapter, String words) {
        quotes.add(new String[] {chapter, words});
        Due.by(chapter + ": " + words);
    }

    /** Words of a chapter that promise nothing of an answer. */
    static void plain(String chapter, String words) {
        quotes.add(new String[] {chapter, words});
    }

    /** Looks whether the words stand in the document, and whether all of its words are among them. */
    static void cover() throws IOException {
        Due.endWords();
        if (!Files.isReadable(DOCUMENT)) {
            System.out.println("no document here: its words are not looked for");
            return;
        }
        Map<String, String> chapters = chapters(Files.readString(DOCUMENT));
        Map<String, String> left = new LinkedHashMap<>(chapters);
        // long ones first: a short one can be a part of a long one
        quotes.sort(Comparator.comparingInt((String[] quote) -> -quote[1].length()));
        for (String[] quote : quotes) {
            boolean stands = chapters.getOrDefault(quote[0], "").contains(quote[1]);
            Due.due("the document: " + quote[0] + ": " + quote[1], stands ? 1 : 0, 1);
            left.computeIfPresent(quote[0], (chapter, words) -> without(words, quote[1]));
        }
        for (Map.Entry<String, String> chapter : left.entrySet()) {
            Matcher word = Pattern.compile("\\w[^#]*").matcher(chapter.getValue());
            String first = word.find() ? word.group() : "";
            Due.due("words of " + chapter.getKey() + " without a test: \"" + first + "\"",
                    first.isEmpty() ? 0 : 1, 0);
        }
    }

    private static String without(String words, String quoted) {
        int place = words.indexOf(quoted);
        return place < 0 ? words
                : words.substring(0, place) + " # " + words.substring(place + quoted.length());
    }

    /** The words of each chapter, without the line that tells the face of a call. */
    private static Map<String, String> chapters(String document) {
        Map<String, String> chapters = new LinkedHashMap<>();
        for (String part : document.split("(?m)^#+ ")) {
            int end = Math.max(0, part.indexOf('\n'));
            String name = part.substring(0, end).replaceFirst("^(Promise \\d+):.*", "$1");
            String words = part.substring(end).strip().replaceFirst("^`[^`]*`:", "");
            if (!words.isEmpty() && !ELSEWHERE.contains(name)) {
                chapters.put(name, words.replace("`", "").replaceAll("\\s+", " "));
            }
        }
        return chapters;
    }
}
