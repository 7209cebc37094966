import java.io.IOException;
import java.nio.file.Files;
import java.nio.file.Path;
import java.util.ArrayList;
import java.util.List;

/** The words of the document, section by section, and which of them the tests have quoted. */
final class Document {
    static final int DESCRIPTION = 0, PROMISES = 32;

    private final String[] titles = new String[PROMISES + 1];
    private final List<List<String>> words = new ArrayList<>();
    private final List<List<Boolean>> quoted = new ArrayList<>();

    Document(String file) throws IOException {
        for (int section = 0; section <= PROMISES; section++) {
            words.add(new ArrayList<>());
            quoted.add(new ArrayList<>());
        }
        int section = -1;
        for (String line : Files.readAllLines(Path.of(file))) {
            if (line.startsWith("## ")) section = begun(line.substring(3));
            else if (line.startsWith("Examples:")) section = -1;
            else if (section >= 0 && !isHeading(line)) add(section, line);
        }
    }

    private int begun(String title) {
        int section = -1;
        if (title.equals("Description")) section = DESCRIPTION;
        if (title.startsWith("Promise ")) section = Integer.parseInt(title.substring(8, title.indexOf(':')));
        if (section >= 0) titles[section] = title;
        return section;
    }

    /** Signatures and headings say nothing that a call could answer. */
    private static boolean isHeading(String line) {
        return line.startsWith("`") || line.startsWith("---- ") || line.matches("[A-Za-z ]{1,20}");
    }

    private void add(int section, String line) {
        for (String word : wordsOf(line)) {
            words.get(section).add(word);
            quoted.get(section).add(Boolean.FALSE);
        }
    }

    private static List<String> wordsOf(String line) {
        List<String> found = new ArrayList<>();
        for (String word : line.trim().split("\\s+")) {
            String bare = word.replaceAll("^[.,;:()`\"]+|[.,;:()`\"]+$", "");
            if (bare.matches(".*[A-Za-z0-9].*")) found.add(bare);
        }
        return found;
    }

    String title(int section) {
        return titles[section];
    }

    /** Marks these words, with gaps where ".." stands; answers false if they do not stand so in the section. */
    boolean quote(int section, String quotation) {
        int from = 0;
        for (String part : quotation.split(" \\.\\. ")) {
            List<String> wanted = wordsOf(part);
            int at = find(words.get(section), wanted, from);
            if (at < 0 || wanted.isEmpty()) return false;
            from = at + wanted.size();
            for (int i = at; i < from; i++) quoted.get(section).set(i, Boolean.TRUE);
        }
        return true;
    }

    private static int find(List<String> all, List<String> wanted, int from) {
        for (int at = from; at + wanted.size() <= all.size(); at++) {
            if (all.subList(at, at + wanted.size()).equals(wanted)) return at;
        }
        return -1;
    }

    /** The words of a section that no test has quoted; "" if there are none. */
    String unquoted(int section) {
        StringBuilder told = new StringBuilder();
        for (int i = 0; i < words.get(section).size(); i++) {
            if (!quoted.get(section).get(i)) told.append(told.length() == 0 ? "" : " ").append(words.get(section).get(i));
        }
        return told.toString();
    }
}
