import java.io.IOException;
import java.nio.file.Files;
import java.nio.file.Path;
import java.util.Arrays;

/**
 * Each sentence of the document that has an edge, with a test of its own. The document's path is
 * the second argument: no word of it may be left that no test quotes, and none be quoted that
 * doesn't stand there.
 */
public final class EdgesTest {
    private static final int PROMISES = 42;

    public static void main(String[] args) throws IOException {
        EdgesOfText.all();
        EdgesOfOdds.all();
        EdgesOfState.all();
        EdgesOfActs.all();
        EdgesAhead.all();
        EdgesOfWays.all();
        EdgesOfPicks.all();
        EdgesOfSeen.all();
        EdgesOfGames.all();
        Edges.tell();
        if (args.length > 1 && Files.isReadable(Path.of(args[1]))) {
            holdToTheDocument(Files.readString(Path.of(args[1])));
        } else {
            System.out.println("the document isn't there: its words were not looked up");
        }
        Check.end();
    }

    private static void holdToTheDocument(String document) {
        int terms = document.indexOf("\n## Terms");
        String first = oneLine(document.substring(terms, document.indexOf("\n## Promise 1:")));
        int used = document.indexOf("An object is used");
        first = "An object is used for at most 512 calls after it has been made " + first.replace("## Terms", "");
        Check.due("the words on 512 calls stand there", true, used >= 0);
        look(Edges.TERMS, first.replaceAll("==== \\d\\.", " ").replace("```text", " ").replace("```", " "));
        for (int p = 1; p <= PROMISES; p++) {
            int start = document.indexOf("\n## Promise " + p + ":");
            int end = document.indexOf("\n## ", start + 1);
            String section = document.substring(start + 1, end);
            look(p, oneLine(section.substring(section.indexOf("`: ") + 3)));
        }
    }

    private static String oneLine(String text) {
        return text.replaceAll("\\s+", " ");
    }

    private static void look(int number, String words) {
        String text = oneLine(words);
        boolean[] quoted = new boolean[text.length()];
        for (String quote : Edges.quoted(number)) {
            int at = text.indexOf(quote);
            Check.due("it stands in " + Edges.section(number) + ": " + quote, true, at >= 0);
            if (at >= 0) {
                Arrays.fill(quoted, at, at + quote.length(), true);
            }
        }
        StringBuilder left = new StringBuilder();
        for (int i = 0; i < text.length(); i++) {
            left.append(quoted[i] ? ' ' : text.charAt(i));
        }
        String missing = left.toString().replaceAll("[^A-Za-z0-9]+", " ").strip();
        Check.due("words of " + Edges.section(number) + " without a test (" + missing + ")", 0, missing.length());
    }
}
