import java.io.IOException;
import java.nio.file.Files;
import java.nio.file.Path;
import java.util.ArrayList;
import java.util.LinkedHashMap;
import java.util.List;
import java.util.Map;
import java.util.regex.Matcher;
import java.util.regex.Pattern;

/**
 * The document's words: a test names the sentence that it is about by quoting it, and a quotation must stand
 * in the section that is named. At the end it can be asked which sentences no test has named.
 */
final class Document {
    private static final Path FILE = Path.of("../shared/DOC.md");
    private static final Pattern STARTS = Pattern.compile("^(?:## (What it is|Promise [0-9]+|The public face|Not promised).*$"
        + "|(Workflows|Environment|Time|Items|Compensation|Instances|Histories|Snapshot|In doubt|Errors)\\.|(Statistics) of)",
        Pattern.MULTILINE);
    private static final Pattern CLAUSE_END = Pattern.compile("[.;] ");
    /** Sentences that promise nothing that a call could show. */
    private static final List<String> SILENT = List.of(
        "A workflow engine: workflows are read from texts in versions;",
        "instances run on the version with which they were started, with tasks that are tried again",
        "what was done is compensated in reverse when branches or instances fail.",
        "Further: histories that can be replayed",
        "The class is not thread-safe.",
        "what later calls answer is free.",
        "The constructor and the methods follow");

    private static final Map<String, String> sections = new LinkedHashMap<>();
    private static final Map<String, boolean[]> quoted = new LinkedHashMap<>();

    private Document() {
    }

    private static void read() {
        String text;
        try {
            text = Files.readString(FILE);
        } catch (IOException e) {
            throw new IllegalStateException(e);
        }
        Matcher start = STARTS.matcher(text);
        String name = null;
        int from = 0;
        while (start.find()) {
            put(name, text.substring(from, start.start()));
            name = start.group(1) != null ? start.group(1) : start.group(2) != null ? start.group(2) : start.group(3);
            from = start.end();
        }
        put(name, text.substring(from));
    }

    private static void put(String name, String words) {
        if (name != null && !name.equals("The public face") && !name.equals("Not promised")) {
            String section = words.replaceAll("\\s+", " ").trim() + " ";
            sections.put(name, section);
            quoted.put(name, new boolean[section.length()]);
        }
    }

    /** Notes that a test is about these words, and tells whether the section has them. */
    static boolean quotes(String section, String words) {
        if (sections.isEmpty()) {
            read();
        }
        int at = sections.getOrDefault(section, "").indexOf(words);
        for (int i = at; i >= 0 && i < at + words.length(); i++) {
            quoted.get(section)[i] = true;
        }
        return at >= 0;
    }

    /** The sentences, and the parts between semicolons, of which no test has quoted a word. */
    static List<String> unquoted() {
        List<String> left = new ArrayList<>();
        for (Map.Entry<String, String> section : sections.entrySet()) {
            Matcher end = CLAUSE_END.matcher(section.getValue());
            int from = 0;
            while (end.find()) {
                String clause = section.getValue().substring(from, end.end()).trim();
                if (!isQuoted(quoted.get(section.getKey()), from, end.end()) && !isSilent(clause)) {
                    left.add(section.getKey() + ": " + clause);
                }
                from = end.end();
            }
        }
        return left;
    }

    static int sections() {
        return sections.size();
    }

    private static boolean isQuoted(boolean[] words, int from, int to) {
        for (int i = from; i < to; i++) {
            if (words[i]) {
                return true;
            }
        }
        return false;
    }

    private static boolean isSilent(String clause) {
        for (String silent : SILENT) {
            if (clause.startsWith(silent)) {
                return true;
            }
        }
        return false;
    }
}
