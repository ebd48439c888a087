import java.io.IOException;
import java.nio.file.DirectoryStream;
import java.nio.file.Files;
import java.nio.file.Path;
import java.util.Arrays;
import java.util.regex.Matcher;
import java.util.regex.Pattern;

/** Every word of the document's terms and promises stands in a sentence that an edge test is for. */
final class SentencesTest {
    private static final Pattern QUOTE = Pattern.compile("\\.of\\(((?:\\s*\\+?\\s*\"[^\"]*\")+)\\);");
    private static final Pattern PIECE = Pattern.compile("\"([^\"]*)\"");

    public static void main(String[] args) throws IOException {
        Due due = new Due("SentencesTest");
        String document = Edge.document();
        if (document == null) {
            System.out.println("SentencesTest: there is no document");
            return;
        }
        String told = toldIn(document);
        boolean[] quoted = new boolean[told.length()];
        int quotes = 0;
        try (DirectoryStream<Path> tests = Files.newDirectoryStream(Path.of("src/test/java"),
                "*EdgesTest.java")) {
            for (Path test : tests) {
                Matcher quote = QUOTE.matcher(Files.readString(test));
                while (quote.find()) {
                    quotes++;
                    mark(told, quoted, sentenceOf(quote.group(1)));
                }
            }
        }
        due.is("quotes", quotes > 60, true);
        for (int from = 0; from < told.length(); from++) {
            if (!quoted[from] && Character.isLetterOrDigit(told.charAt(from))) {
                int to = from;
                while (to < told.length() && !quoted[to]) {
                    to++;
                }
                due.is("no test is for: " + told.substring(from, to), 0, 1);
                from = to;
            }
        }
        due.close();
    }

    /** The terms and the promises without their headings, faces and signs of a new part. */
    private static String toldIn(String document) {
        int from = document.indexOf("## Terms");
        int to = document.indexOf("## Not promised");
        return document.substring(Math.max(from, 0), to < 0 ? document.length() : to)
                .replaceAll("```(text)?", "")
                .replace("## Terms", "")
                .replaceAll("## Promise \\d+: [^`]*`[^`]*`:", "")
                .replaceAll("==== \\d+\\.", "")
                .replaceAll("\\s+", " ");
    }

    private static String sentenceOf(String pieces) {
        StringBuilder sentence = new StringBuilder();
        Matcher piece = PIECE.matcher(pieces);
        while (piece.find()) {
            sentence.append(piece.group(1));
        }
        return Edge.flat(sentence.toString());
    }

    private static void mark(String told, boolean[] quoted, String sentence) {
        for (int at = told.indexOf(sentence); at >= 0; at = told.indexOf(sentence, at + 1)) {
            Arrays.fill(quoted, at, at + sentence.length(), true);
        }
    }
}
