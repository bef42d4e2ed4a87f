import java.io.IOException;
import java.nio.charset.StandardCharsets;
import java.nio.file.Files;
import java.nio.file.Path;
import java.util.ArrayList;
import java.util.List;

/** The sentences of ../shared/DOC.md, so that a test can be asked for each of them. */
final class Document {
    private static final String TERMS = "\n## Terms\n";
    private static final String PROMISE = "\n## Promise ";
    private static final String END = "\n## Not promised";

    private Document() {
    }

    private static String text() throws IOException {
        byte[] bytes = Files.readAllBytes(Path.of("../shared/DOC.md"));
        return new String(bytes, StandardCharsets.UTF_8);
    }

    /** The sentence of 512 calls, and those from "Terms" to the constants, which FaceTest tests. */
    static List<String> terms() throws IOException {
        String text = text();
        List<String> sentences = new ArrayList<>();
        sentences.add(lineWith(text, "512 calls after"));
        String terms = text.substring(text.indexOf(TERMS) + TERMS.length(), text.indexOf("\nThe constants:"));
        for (String line : terms.split("\n")) {
            boolean isHeading = !line.endsWith(".");
            for (String sentence : isHeading ? new String[0] : line.split("(?<=\\.) ")) {
                sentences.add(sentence);
            }
        }
        return sentences;
    }

    /** What the promises from one to another one say, a line each, led by the promise's number. */
    static List<String> promises(int from, int to) throws IOException {
        String text = text();
        List<String> lines = new ArrayList<>();
        for (int promise = from; promise <= to; promise++) {
            int begin = text.indexOf(PROMISE + promise + ":") + PROMISE.length();
            int next = text.indexOf(PROMISE, begin);
            String section = text.substring(begin, next < 0 ? text.indexOf(END) : next);
            for (String line : section.substring(section.indexOf('\n')).split("\n")) {
                if (!line.isEmpty()) {
                    lines.add(promise + " " + withoutSignature(line));
                }
            }
        }
        return lines;
    }

    private static String withoutSignature(String line) {
        int end = line.indexOf("`: ");
        return line.startsWith("`") && end > 0 ? line.substring(end + 3) : line;
    }

    private static String lineWith(String text, String part) {
        for (String line : text.split("\n")) {
            if (line.contains(part)) {
                return line;
            }
        }
        return "";
    }
}
