import java.io.IOException;
import java.nio.charset.StandardCharsets;
import java.nio.file.Files;
import java.nio.file.Path;

/**
 * Each sentence of the document that names an edge has a test of its own, which says the promise
 * and the words. Here the words are looked for in the document, so that none is made up, and each
 * promise must have a test. With an argument the words that no test quotes are printed.
 */
public final class EdgesTest {
    private static final Path DOCUMENT = Path.of("../shared/DOC.md");
    private static final int PROMISES = 44;

    private EdgesTest() {
    }

    public static void main(String[] args) throws IOException {
        Edges e = new Edges();
        RowEdges.all(e);
        TextEdges.all(e);
        ActEdges.all(e);
        ForetoldEdges.all(e);
        LikelyEdges.all(e);
        AskEdges.all(e);
        BoundEdges.all(e);
        int wrong = e.wrong() + promisesWithout(e) + wordsMadeUp(e);
        if (args.length > 0) {
            System.out.println(wordsNotQuoted(e));
        }
        System.out.println(wrong == 0 ? "all of " + e.tests() + " edges are as due" : wrong + " edges are not as due");
        if (wrong != 0) {
            System.exit(1);
        }
    }

    private static int promisesWithout(Edges e) {
        int many = 0;
        for (int promise = 1; promise <= PROMISES; promise++) {
            if (!e.promises().contains(String.valueOf(promise))) {
                System.out.println("promise " + promise + " has no test of an edge");
                many++;
            }
        }
        return many;
    }

    private static String document() throws IOException {
        return Files.readString(DOCUMENT, StandardCharsets.UTF_8).replaceAll("\\s+", " ");
    }

    private static int wordsMadeUp(Edges e) throws IOException {
        if (!Files.exists(DOCUMENT)) {
            System.out.println("the document is not there, so that its words are not looked for");
            return 0;
        }
        String document = document();
        int many = 0;
        for (String words : e.quoted()) {
            if (!document.contains(words)) {
                System.out.println("not in the document: " + words);
                many++;
            }
        }
        return many;
    }

    private static String wordsNotQuoted(Edges e) throws IOException {
        String document = document();
        StringBuilder left = new StringBuilder(document);
        for (String words : e.quoted()) {
            for (int at = document.indexOf(words); at >= 0; at = document.indexOf(words, at + 1)) {
                for (int k = 0; k < words.length(); k++) {
                    left.setCharAt(at + k, '_');
                }
            }
        }
        return left.toString().replaceAll("_+", "\n");
    }
}
