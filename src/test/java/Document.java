import java.io.IOException;
import java.nio.file.Files;
import java.nio.file.Path;
import java.util.ArrayList;
import java.util.LinkedHashMap;
import java.util.List;
import java.util.Map;
import java.util.Set;
import java.util.TreeSet;
import java.util.regex.Matcher;
import java.util.regex.Pattern;

/** The document's sections, and which of their words a test has quoted. */
final class Document {
    static final String USE = "What it is";
    static final String CONSTANTS = "The constants";
    static final int PROMISES = 61;
    private static final String[] TERMS = {"I", "II", "III", "IV"};

    private final Map<String, String> sections = new LinkedHashMap<>();
    private final Map<String, boolean[]> quoted = new LinkedHashMap<>();

    Document() {
        String all = read();
        add(USE, between(all, "(?m)^An object is used", "(?m)^## The public face"));
        for (int i = 0; i < TERMS.length; i++) {
            String end = i + 1 < TERMS.length ? "(?m)^" + TERMS[i + 1] + "\\. " : "(?m)^The constants: ";
            add(TERMS[i], between(all, "(?m)^" + TERMS[i] + "\\. ", end));
        }
        add(CONSTANTS, between(all, "(?m)^The constants: ", "(?m)^Ahead of the calls "));
        for (int n = 1; n <= PROMISES; n++) {
            String promise = between(all, "(?m)^## Promise " + n + ": .*$", "(?m)^## ");
            add(Integer.toString(n), promise.replaceFirst("`[^`]*`: ", ""));
        }
    }

    private static String read() {
        try {
            return Files.readString(Path.of("../shared/DOC.md"));
        } catch (IOException e) {
            throw new IllegalStateException("../shared/DOC.md can't be read", e);
        }
    }

    /** What stands behind the first pattern, and ahead of the next place of the other one. */
    private static String between(String all, String start, String end) {
        Matcher from = Pattern.compile(start).matcher(all);
        if (!from.find()) {
            throw new IllegalStateException("the document has no " + start);
        }
        Matcher to = Pattern.compile(end).matcher(all);
        return all.substring(from.end(), to.find(from.end()) ? to.start() : all.length());
    }

    private void add(String section, String text) {
        String plain = text.replaceAll("(?m)^```.*$", "").replace("`", "").replaceAll("\\s+", " ").trim();
        sections.put(section, plain);
        quoted.put(section, new boolean[plain.length()]);
    }

    /** False if the section has no such words. */
    boolean quote(String section, String words) {
        String text = sections.get(section);
        if (text == null || !text.contains(words)) {
            return false;
        }
        boolean[] marks = quoted.get(section);
        for (int at = text.indexOf(words); at >= 0; at = text.indexOf(words, at + 1)) {
            for (int i = at; i < at + words.length(); i++) {
                marks[i] = true;
            }
        }
        return true;
    }

    /** All words that no test has quoted, each with its section. */
    List<String> unquoted() {
        List<String> left = new ArrayList<>();
        for (Map.Entry<String, String> section : sections.entrySet()) {
            if (section.getKey().equals(USE)) {
                continue;
            }
            StringBuilder rest = new StringBuilder();
            boolean[] marks = quoted.get(section.getKey());
            for (int i = 0; i < marks.length; i++) {
                rest.append(marks[i] ? '_' : section.getValue().charAt(i));
            }
            for (String piece : rest.toString().split("_+")) {
                if (piece.matches(".*[A-Za-z0-9].*")) {
                    left.add(section.getKey() + ": " + piece.trim());
                }
            }
        }
        return left;
    }

    /** The TROUBLE numbers that a promise tells. */
    Set<Integer> refusals(int promise) {
        String text = sections.get(Integer.toString(promise));
        if (text.contains("NONE: likewise.")) {
            return refusals(promise - 1);
        }
        Set<Integer> numbers = new TreeSet<>();
        Matcher list = Pattern.compile("(?:NONE|-1|-100|false): ([^.]*)\\.").matcher(text);
        while (list.find()) {
            for (String number : list.group(1).replaceAll("\\([^)]*\\)", "").split(";")) {
                numbers.add(Integer.parseInt(number.trim()));
            }
        }
        return numbers;
    }
}
