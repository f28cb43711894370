import java.io.IOException;
import java.nio.file.Files;
import java.nio.file.Path;
import java.util.Arrays;

/** The document as a test quotes it: sentence by sentence, and behind each sentence what the class answers to it. */
final class Doc {
    private static final Path DOCUMENT = Path.of("..", "shared", "DOC.md");
    private static final StringBuilder QUOTED = new StringBuilder();
    private static String sentence = "";
    private static int askedAhead;
    private static boolean promises;

    private Doc() {
    }

    /** A sentence of the document, which has to have a test of its own behind it. */
    static void says(String words) {
        quote(words, true);
    }

    /** Words of the document that promise nothing by themselves: a heading, what is free. */
    static void heads(String words) {
        quote(words, false);
    }

    private static void quote(String words, boolean hasTest) {
        endSentence();
        QUOTED.append(words).append('\n');
        sentence = words.strip();
        promises = hasTest;
        askedAhead = Due.asked();
    }

    private static void endSentence() {
        if (promises && Due.asked() == askedAhead) {
            Due.isTrue("\"" + sentence + "\" has a test of its own", false);
        }
    }

    /**
     * A new object to which a river is told, and calls of it with what they have to answer, where that is told:
     * "row 0, row 8, judge 9 0 = -9"; "tell" and a text tells its letters and asks for the river.
     */
    static FloeToFloe run(String river, String... calls) {
        FloeToFloe x = new FloeToFloe();
        if (!river.isEmpty()) {
            Due.isTrue(river + " is a river", Due.tell(x, river) > 0);
        }
        for (String call : String.join(",", calls).split(",")) {
            String[] sides = call.split("=");
            int answer = answer(x, sides[0].strip().split(" "));
            if (sides.length > 1) {
                Due.is("\"" + sentence + "\": " + river + " " + call.strip(), answer, Integer.parseInt(sides[1].strip()));
            }
        }
        return x;
    }

    private static int answer(FloeToFloe x, String[] words) {
        if (words[0].equals("tell")) {
            return Due.tell(x, words[1]);
        }
        int[] given = Arrays.stream(words).skip(1).mapToInt(Integer::parseInt).toArray();
        return Due.call(x, words[0], given);
    }

    /** The sentences that were quoted are the document, from its first to its last, and none is left out. */
    static void end() throws IOException {
        endSentence();
        String document = bare(Files.readString(DOCUMENT));
        String quoted = bare(QUOTED.toString());
        int same = 0;
        while (same < document.length() && same < quoted.length() && document.charAt(same) == quoted.charAt(same)) {
            same++;
        }
        Due.isTrue("the document goes on: " + from(document, same) + "\nbut is quoted: " + from(quoted, same),
                document.equals(quoted));
    }

    /** Without the signs of the page: the fences of its blocks, the breaks of its lines. */
    private static String bare(String text) {
        return text.replaceAll("```[a-z]*", " ").replaceAll("\\s+", " ").strip();
    }

    private static String from(String text, int place) {
        return text.substring(place, Math.min(text.length(), place + 80));
    }
}
