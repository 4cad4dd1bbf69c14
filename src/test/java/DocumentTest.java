import java.io.IOException;
import java.nio.file.DirectoryStream;
import java.nio.file.Files;
import java.nio.file.Path;
import java.util.LinkedHashMap;
import java.util.Map;
import java.util.regex.Matcher;
import java.util.regex.Pattern;

/** That no word of the document is without a test: the words of all Check.sentence(..), held against the document. */
public final class DocumentTest {
    private static final Pattern CALL = Pattern.compile("Check\\.sentence\\(");
    private static final Pattern WORDS = Pattern.compile("Check\\.sentence\\(\\s*\"([^\"]*)\",\\s*\"([^\"]*)\"");

    /** Words that leave something free, so that a test of them would ask for what is not promised. */
    private static final String[][] FREE = {
        {"What it is", "what later calls answer is free"},
        {"Not promised", "How the state is held inside the object is free, as are the speed of each call, the text of toString"
            + " and the behaviour of equals and hashCode"},
        {"Not promised", "Use of one object from several threads at once is not promised to be safe"},
        {"Not promised", "Nothing is promised beyond the answers and state changes described above, and nothing about an object"
            + " after its 512th call"},
    };

    /** The document's text under each heading, in which each word with a test becomes dots. */
    private final Map<String, StringBuilder> left = new LinkedHashMap<>();
    private final Map<String, String> text = new LinkedHashMap<>();

    public static void main(String[] args) throws IOException {
        DocumentTest test = new DocumentTest();
        test.takeDocument(Files.readString(Path.of("../shared/DOC.md")));
        test.dropFacesOfPromises();
        for (String[] free : FREE) {
            test.strike("this test", free[0], free[1]);
        }
        try (DirectoryStream<Path> files = Files.newDirectoryStream(Path.of("src/test/java"), "*Test.java")) {
            for (Path file : files) {
                test.strikeAll(file.getFileName().toString(), Files.readString(file));
            }
        }
        test.nothingIsLeft();
        Check.end();
    }

    private void takeDocument(String document) {
        for (String part : document.split("(?m)^## ")) {
            int end = part.indexOf('\n');
            if (!part.startsWith("# ")) {
                String words = part.substring(end).replaceAll("```(java)?", " ").replaceAll("\\s+", " ");
                text.put(part.substring(0, end), words);
                left.put(part.substring(0, end), new StringBuilder(words));
            }
        }
        Check.due("headings", left.size(), 3 + 13 + 1);
    }

    /** Each promise begins with its line of the face, which FaceTest tests where all of the face stands. */
    private void dropFacesOfPromises() {
        for (String heading : text.keySet()) {
            Matcher line = Pattern.compile("`([^`]*)`:").matcher(text.get(heading));
            boolean promise = heading.startsWith("Promise ");
            Check.due(heading + " begins with its face", line.find(), promise);
            if (promise) {
                Check.due(heading + ": its face", text.get("The public face").contains("public " + line.group(1) + ";"), true);
                dot(heading, line.start(), line.end());
            }
        }
    }

    private void strikeAll(String file, String source) {
        if (file.equals("DocumentTest.java")) {
            return;
        }
        int calls = (int) CALL.matcher(source).results().count();
        Matcher words = WORDS.matcher(source);
        int found = 0;
        while (words.find()) {
            found++;
            strike(file, words.group(1), words.group(2));
        }
        Check.due(file + ": sentences with their words written out", found, calls);
    }

    private void strike(String file, String where, String words) {
        for (String heading : text.keySet()) {
            if (heading.equals(where) || heading.startsWith(where + ":")) {
                strikeUnder(file, heading, words);
                return;
            }
        }
        Check.due(file + ": a heading " + where, false, true);
    }

    private void strikeUnder(String file, String heading, String words) {
        int from = 0;
        for (String part : words.split(" \\| ")) {
            int at = text.get(heading).indexOf(part, from);
            Check.due(file + ": '" + part + "' under " + heading, at >= 0, true);
            if (at < 0) {
                return;
            }
            boolean again = from == 0 && text.get(heading).indexOf(part, at + 1) >= 0 && !words.contains(" | ");
            Check.due(file + ": '" + part + "' stands twice under " + heading, again, false);
            from = at + part.length();
            dot(heading, at, from);
        }
    }

    private void dot(String heading, int from, int to) {
        for (int i = from; i < to; i++) {
            left.get(heading).setCharAt(i, '.');
        }
    }

    private void nothingIsLeft() {
        for (String heading : left.keySet()) {
            String words = left.get(heading).toString().replaceAll("[^A-Za-z0-9]+", " ").trim();
            Check.due("under " + heading + " there is no test of the words '" + words + "'", words.isEmpty(), true);
        }
    }
}
