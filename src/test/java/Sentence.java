import java.io.IOException;
import java.io.UncheckedIOException;
import java.nio.file.Files;
import java.nio.file.Path;
import java.util.LinkedHashMap;
import java.util.Map;
import java.util.regex.Pattern;

/**
 * A test of its own for a sentence of the document, or for a part of one: its title is the words as
 * they stand in a section there. At the end no words of Terms and of the promises may be left that
 * are no test's title, so that a sentence that was overlooked is seen.
 */
final class Sentence {

    static final String TERMS = "Terms";
    private static final Path DOCUMENT = Path.of("../shared/DOC.md");
    private static final Pattern WORDS = Pattern.compile("[A-Za-z0-9]");
    private static final Map<String, Section> SECTIONS = sections();

    /** The text of a section, and which of its characters are in some test's title. */
    private static final class Section {
        final String text;
        final boolean[] tested;

        Section(String text) {
            this.text = text;
            this.tested = new boolean[text.length()];
        }
    }

    private Sentence() {
    }

    static Script of(String section, String words) {
        take(section, words);
        return new Script(section + ", \"" + words + "\"");
    }

    static void hold(String section, String words, String lines) {
        of(section, words).hold(lines);
    }

    static String promise(int number) {
        return "Promise " + number;
    }

    static void holdThatNoneIsLeft() {
        for (Map.Entry<String, Section> each : SECTIONS.entrySet()) {
            if (each.getKey().equals(TERMS) || each.getKey().startsWith("Promise ")) {
                holdThatNoneIsLeft(each.getKey(), each.getValue());
            }
        }
    }

    private static void holdThatNoneIsLeft(String name, Section section) {
        StringBuilder left = new StringBuilder();
        for (int i = 0; i < section.tested.length; i++) {
            left.append(section.tested[i] ? '\n' : section.text.charAt(i));
        }
        for (String words : left.toString().split("\n+")) {
            if (WORDS.matcher(words).find()) {
                Script.fault(name + ": no test for \"" + words.trim() + "\"");
            }
        }
    }

    private static void take(String name, String words) {
        Section section = SECTIONS.get(name);
        int from = section == null ? -1 : section.text.indexOf(words);
        if (from < 0 || section.text.indexOf(words, from + 1) >= 0) {
            Script.fault(name + " doesn't say (once): " + words);
            return;
        }
        for (int i = from; i < from + words.length(); i++) {
            section.tested[i] = true;
        }
    }

    private static Map<String, Section> sections() {
        Map<String, Section> found = new LinkedHashMap<>();
        for (String part : document().split("(?m)^## ")) {
            String[] sides = part.split("\n", 2);
            String name = sides[0].replaceFirst(":.*", "").trim();
            found.put(name, new Section(plain(sides.length > 1 ? sides[1] : "")));
        }
        return found;
    }

    /** Without fences, the marks of the parts, and the head that a promise begins with. */
    private static String plain(String text) {
        return text.replaceAll("(?m)^```.*$", "").replaceAll("==== \\d+\\.", "")
                .replaceAll("\\s+", " ").trim().replaceFirst("^`[^`]*`: ", "");
    }

    private static String document() {
        try {
            return Files.readString(DOCUMENT);
        } catch (IOException e) {
            throw new UncheckedIOException(e);
        }
    }
}
