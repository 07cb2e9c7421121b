import java.io.IOException;
import java.io.UncheckedIOException;
import java.nio.file.Files;
import java.nio.file.Path;
import java.util.ArrayList;
import java.util.LinkedHashMap;
import java.util.List;
import java.util.Map;
import java.util.regex.Matcher;
import java.util.regex.Pattern;

/** The text of the document, section by section, and which of its words some test has named. */
final class Document {
    private static final Pattern PROMISE = Pattern.compile("## Promise (\\d+):.*");
    private static final Pattern PART = Pattern.compile("== (\\d+)\\. .*");
    private static final Pattern CONDITION = Pattern.compile("Throws \\w+ if (.*)");

    private static final class Section {
        final List<String> lines = new ArrayList<>();
        String text = "";
        boolean[] isNamed = new boolean[0];

        void close() {
            text = String.join(" ", lines);
            isNamed = new boolean[text.length()];
        }
    }

    private final Map<String, Section> sections = new LinkedHashMap<>();
    private final boolean isThere;

    /** Where the document does not lie beside the checkout, its words are not looked up. */
    Document(Path file) {
        isThere = Files.exists(file);
        if (isThere) {
            divide(file);
        }
    }

    boolean isThere() {
        return isThere;
    }

    private void divide(Path file) {
        Section section = new Section();
        for (String line : read(file)) {
            String plain = line.replace("`", "").strip();
            Matcher promise = PROMISE.matcher(plain);
            Matcher part = PART.matcher(plain);
            if (promise.matches()) {
                section = open("promise " + promise.group(1));
            } else if (part.matches()) {
                section = open("part " + part.group(1));
            } else if (plain.equals("## Description")) {
                section = open("part 0");
            } else if (plain.startsWith("## ")) {
                section = new Section();
            } else if (!plain.isEmpty() && !plain.startsWith("---- ")) {
                section.lines.add(plain);
            }
        }
        sections.values().forEach(Section::close);
    }

    private static List<String> read(Path file) {
        try {
            return Files.readAllLines(file);
        } catch (IOException e) {
            throw new UncheckedIOException(e);
        }
    }

    private Section open(String name) {
        return sections.computeIfAbsent(name, key -> new Section());
    }

    /** Whether the section has these words; they count as named then, wherever in it they stand. */
    boolean name(String section, String words) {
        Section found = sections.get(section);
        int at = found == null ? -1 : found.text.indexOf(words);
        boolean isSaid = at >= 0 || !isThere;
        while (at >= 0) {
            for (int i = at; i < at + words.length(); i++) {
                found.isNamed[i] = true;
            }
            at = found.text.indexOf(words, at + 1);
        }
        return isSaid;
    }

    /** What no test has named: sentences of the description, bounds of arguments, what is thrown, what is returned. */
    List<String> unnamed() {
        List<String> left = new ArrayList<>();
        for (Map.Entry<String, Section> entry : sections.entrySet()) {
            boolean isPromise = entry.getKey().startsWith("promise");
            int at = 0;
            for (String line : entry.getValue().lines) {
                String rest = isPromise ? leftOfPromise(entry.getValue(), line, at) : leftOfPart(entry.getValue(), line, at);
                if (!rest.isEmpty()) {
                    left.add(entry.getKey() + ": " + rest);
                }
                at += line.length() + 1;
            }
        }
        return left;
    }

    private static String leftOfPromise(Section section, String line, int at) {
        Matcher condition = CONDITION.matcher(line);
        if (condition.matches()) {
            return wordsLeft(section, condition.group(1), at + condition.start(1));
        }
        if (line.startsWith("- ") && line.matches(".*\\d.*")) {
            return wordsLeft(section, line, at);
        }
        return line.startsWith("Returns") && !isTouched(section, at, at + line.length()) ? line : "";
    }

    private static String leftOfPart(Section section, String line, int at) {
        StringBuilder left = new StringBuilder();
        int from = 0;
        for (String sentence : line.split("(?<=\\.\\)?) ")) {
            if (!isTouched(section, at + from, at + from + sentence.length())) {
                left.append(sentence).append(' ');
            }
            from += sentence.length() + 1;
        }
        return left.toString().strip();
    }

    private static boolean isTouched(Section section, int from, int to) {
        for (int i = from; i < to; i++) {
            if (section.isNamed[i]) {
                return true;
            }
        }
        return false;
    }

    private static String wordsLeft(Section section, String text, int at) {
        StringBuilder left = new StringBuilder();
        for (int i = 0; i < text.length(); i++) {
            left.append(section.isNamed[at + i] ? ' ' : text.charAt(i));
        }
        return left.toString().replaceAll("\\b(or|and)\\b|[,.:]", " ").replaceAll("\\s+", " ").strip();
    }
}
