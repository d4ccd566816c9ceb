import java.io.IOException;
import java.nio.file.Files;
import java.nio.file.Path;
import java.util.ArrayList;
import java.util.Arrays;
import java.util.LinkedHashMap;
import java.util.List;
import java.util.Map;

/**
 * The document's own words beside each test: what fails is printed with its promise and its sentence, and no
 * sentence of the terms and of the promises is left without a test.
 */
final class Document {
    private static final Map<String, List<String>> QUOTED = new LinkedHashMap<>();

    private final String heading;

    private Document(String heading) {
        this.heading = heading;
    }

    /** A part of the document, by the heading that it has there. */
    static Document part(String heading) {
        QUOTED.putIfAbsent(heading, new ArrayList<>());
        return new Document(heading);
    }

    /** Runs the test of a sentence, or of a clause that names a case. */
    void says(String words, Expect.Call test) {
        QUOTED.get(heading).add(words);
        Expect.about(heading + ", \"" + words + "\": ");
        try {
            test.run();
        } catch (RuntimeException e) {
            Expect.report("ended by " + e + " at " + Arrays.toString(e.getStackTrace()));
        }
        Expect.about("");
    }

    /** Looks whether all words of the terms and the promises were quoted, as they stand there. */
    static void isQuotedWhole(Path path) throws IOException {
        int promises = 0;
        for (Map.Entry<String, String> section : sections(Files.readString(path)).entrySet()) {
            if (section.getKey().equals("Terms") || section.getKey().startsWith("Promise ")) {
                List<String> quotes = QUOTED.getOrDefault(section.getKey(), new ArrayList<>());
                isQuotedWhole(section.getKey(), section.getValue(), quotes);
                promises++;
            }
        }
        Expect.is("the document: the terms and the promises", promises, QUOTED.size());
    }

    private static Map<String, String> sections(String text) {
        Map<String, String> sections = new LinkedHashMap<>();
        for (String section : text.split("(?m)^## ")) {
            int end = section.indexOf('\n');
            String body = section.substring(end + 1)
                    .replaceAll("(?m)^```.*$", "")
                    .replaceFirst("^\\s*`[^`]*`: ", "")
                    .replaceAll("\\s+", " ");
            sections.put(section.substring(0, end).trim(), body);
        }
        return sections;
    }

    private static void isQuotedWhole(String heading, String body, List<String> quotes) {
        StringBuilder rest = new StringBuilder(body);
        for (String quote : quotes) {
            int at = body.indexOf(quote);
            Expect.is(heading + ": stands there: " + quote, at >= 0 ? 1 : 0, 1);
            Expect.is(heading + ": stands there once: " + quote, body.lastIndexOf(quote), at);
            for (int i = Math.max(at, 0); i < at + quote.length(); i++) {
                rest.setCharAt(i, ' ');
            }
        }
        String left = rest.toString().replaceAll("[^A-Za-z0-9]+", " ").trim();
        Expect.same(heading + ": words without a test", left, "");
    }
}
