import java.nio.file.Files;
import java.nio.file.Path;
import java.util.LinkedHashMap;
import java.util.Map;

/** The document by its parts, and which words of it the tests of SentencesTest have told. */
final class Document {
    private static final Path PATH = Path.of("../shared/DOC.md");
    private static final Map<String, String> PARTS = new LinkedHashMap<>();
    private static final Map<String, boolean[]> TOLD = new LinkedHashMap<>();

    private Document() {
    }

    static void read() throws Exception {
        String text = Files.readString(PATH);
        String use = "An object is used";
        readPart(use, use + between(text, use, "## The public face"));
        for (String paragraph : between(text, "## Terms", "<p>Examples").split("\n\\s*\n")) {
            String plain = paragraph.strip();
            boolean headed = plain.matches("(?s)[A-Z][a-z]+\\..*");
            readPart(headed ? plain.substring(0, plain.indexOf('.')) : "Terms",
                    headed ? plain.substring(plain.indexOf('.') + 1) : plain);
        }
        String[] promises = between(text, "## Promise 1:", "## Not promised").split("## Promise ");
        for (String promise : promises) {
            String head = promise.substring(0, promise.indexOf('\n'));
            String number = head.contains(":") ? head.substring(0, head.indexOf(':')) : "1";
            readPart(promise(Integer.parseInt(number.strip())), promise.substring(promise.indexOf("`: ") + 3));
        }
    }

    static String promise(int number) {
        return "Promise " + number;
    }

    /** What follows is the test of these words. */
    static void tell(String part, String words) {
        String text = PARTS.getOrDefault(part, "");
        boolean[] told = TOLD.getOrDefault(part, new boolean[0]);
        Checks.under(part + ": " + words);
        Checks.due("the document's words", true, () -> text.contains(words));
        for (int at = text.indexOf(words); at >= 0; at = text.indexOf(words, at + 1)) {
            java.util.Arrays.fill(told, at, at + words.length(), true);
        }
    }

    /** Words of the document that no test has told are as bad as a wrong answer. */
    static void end() {
        Checks.under("");
        Checks.due("terms and promises", true, () -> PARTS.containsKey("Heat") && PARTS.containsKey(promise(41)));
        for (String part : PARTS.keySet()) {
            Checks.due("words of " + part + " without a test", "", () -> untold(part));
        }
    }

    private static String untold(String part) {
        StringBuilder rest = new StringBuilder();
        String text = PARTS.get(part);
        boolean[] told = TOLD.get(part);
        for (int i = 0; i < text.length(); i++) {
            rest.append(told[i] ? '|' : text.charAt(i));
        }
        String left = rest.toString().replaceAll("\\|+", "|");
        return left.matches("[^A-Za-z0-9]*") ? "" : left;
    }

    private static void readPart(String part, String text) {
        String plain = text.replaceAll("\\s+", " ").strip();
        String whole = PARTS.containsKey(part) ? PARTS.get(part) + " " + plain : plain;
        PARTS.put(part, whole);
        TOLD.put(part, new boolean[whole.length()]);
    }

    private static String between(String text, String from, String to) {
        int begin = text.indexOf(from) + from.length();
        return text.substring(begin, text.indexOf(to, begin));
    }
}
