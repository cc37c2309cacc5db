import java.io.IOException;
import java.nio.charset.StandardCharsets;
import java.nio.file.DirectoryStream;
import java.nio.file.Files;
import java.nio.file.Path;
import java.util.ArrayList;
import java.util.List;
import java.util.Map;
import java.util.TreeMap;
import java.util.regex.Pattern;

/**
 * Each sentence of the document, quoted, with calls of its own that fail if it is broken: src/test/edges/*.txt. It fails
 * too if a sentence is not quoted, or a quote is not the document's. Run from the project's folder.
 */
public final class EdgesTest {
    private static final Pattern SIGNATURE = Pattern.compile("`(Saddletree\\(\\)|\\w+ \\w+\\([^`]*)`:");

    /** By its heading, what the document says there, and which of its letters a quote has told. */
    private static final Map<String, String> DOCUMENT = new TreeMap<>();
    private static final Map<String, boolean[]> TOLD = new TreeMap<>();

    private String section = "";
    private String quote = "";
    private EdgeRun run = new EdgeRun();

    public static void main(String[] args) throws IOException {
        readDocument(Path.of("../shared/DOC.md"));
        try (DirectoryStream<Path> files = Files.newDirectoryStream(Path.of("src/test/edges"), "*.txt")) {
            for (Path file : files) {
                new EdgesTest().read(file);
            }
        }
        for (String section : DOCUMENT.keySet()) {
            Due.same("what no test of " + section + " quotes", untold(section), List.of());
        }
        Due.end();
    }

    private static void readDocument(Path file) throws IOException {
        String section = "";
        for (String line : Files.readAllLines(file, StandardCharsets.UTF_8)) {
            if (line.startsWith("## ")) {
                section = line.substring(3).replaceAll(":.*", "");
            } else if (section.equals("Terms") || section.startsWith("Promise ")) {
                DOCUMENT.merge(section, SIGNATURE.matcher(line).replaceAll("").strip(), (a, b) -> a + "\n" + b);
            }
        }
        for (String told : DOCUMENT.keySet()) {
            TOLD.put(told, new boolean[DOCUMENT.get(told).length()]);
        }
    }

    private static List<String> untold(String section) {
        List<String> untold = new ArrayList<>();
        StringBuilder piece = new StringBuilder();
        String text = DOCUMENT.get(section) + "\n";
        for (int i = 0; i < text.length(); i++) {
            boolean isTold = i >= TOLD.get(section).length || TOLD.get(section)[i] || text.charAt(i) == '\n';
            if (!isTold) {
                piece.append(text.charAt(i));
            } else {
                if (piece.toString().matches(".*\\w.*")) {
                    untold.add(piece.toString().strip());
                }
                piece.setLength(0);
            }
        }
        return untold;
    }

    private void read(Path file) throws IOException {
        int number = 0;
        for (String line : Files.readAllLines(file, StandardCharsets.UTF_8)) {
            number++;
            String where = file.getFileName() + ":" + number + " (" + section + ": " + quote + ") ";
            if (line.startsWith("== ")) {
                finish(where);
                section = line.substring(3);
            } else if (line.startsWith("> ") || line.startsWith("~ ")) {
                finish(where);
                tell(line.substring(2), file.getFileName() + ":" + number);
                quote = line.startsWith("> ") ? line.substring(2) : "";
            } else if (line.equals("new")) {
                run.end(where);
                run = new EdgeRun();
            } else if (!line.isBlank() && !line.startsWith("#")) {
                Due.same(where + "a call stands behind a quote", quote.isEmpty(), false);
                run.line(where, line);
            }
        }
        finish(file.getFileName() + ", its end, (" + section + ": " + quote + ") ");
    }

    private void finish(String where) {
        run.end(where);
        Due.same(where + "a quote has calls", quote.isEmpty() || run.hasCalls(), true);
        run = new EdgeRun();
        quote = "";
    }

    private void tell(String said, String where) {
        String text = DOCUMENT.getOrDefault(section, "");
        int at = text.indexOf(said);
        Due.same(where + ": " + section + " of the document says " + said, at >= 0, true);
        for (; at >= 0; at = text.indexOf(said, at + 1)) {
            for (int i = at; i < at + said.length(); i++) {
                TOLD.get(section)[i] = true;
            }
        }
    }
}
