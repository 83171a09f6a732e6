import java.nio.file.Files;
import java.nio.file.Path;
import java.util.ArrayList;
import java.util.List;
import java.util.Map;
import java.util.TreeMap;
import java.util.regex.Matcher;
import java.util.regex.Pattern;

/**
 * Tests that go by the document's own words: each quotes the words it is a test of, from a promise or from
 * the Terms. Words that the document does not have are wrong, and so are words of it that no test quotes:
 * so none of its sentences is left without a test of its own.
 */
final class Words {
    static final int TERMS = 0;

    private static final Map<Integer, String> TEXTS = new TreeMap<>();
    private static final Map<Integer, boolean[]> QUOTED = new TreeMap<>();
    private static int tests;

    private Words() {
    }

    /** Reads ../shared/DOC.md, which lies beside the program's checkout. */
    static void of(String program) throws Exception {
        Path doc = Path.of(program).toAbsolutePath().normalize().resolve("../../../../../shared/DOC.md").normalize();
        String all = Files.readString(doc);
        int terms = all.indexOf("## Terms");
        put(TERMS, all.substring(terms + "## Terms".length(), all.indexOf("Ahead of the calls", terms)));
        Matcher promise = Pattern.compile("## Promise (\\d+): [^\n]*\n\n`[^`]*`: ([^\n]*)").matcher(all);
        while (promise.find()) {
            put(Integer.parseInt(promise.group(1)), promise.group(2));
        }
        Due.is("promises in the document", TEXTS.size() - 1, 54);
    }

    private static void put(int promise, String text) {
        String plain = text.replace("```text", "").replace("```", "").replaceAll("(?m)^\\d\\. ", "").replaceAll("\\s+", " ").trim();
        TEXTS.put(promise, plain);
        QUOTED.put(promise, new boolean[plain.length()]);
    }

    /** A test of words of a promise (or of the TERMS); words told with ".." between them stand apart in it. */
    static void test(int promise, String words, Runnable test) {
        tests++;
        String where = promise == TERMS ? "Terms" : "promise " + promise;
        Due.under(where + ", '" + words + "': ");
        quote(promise, words);
        test.run();
        Due.under("");
    }

    private static void quote(int promise, String words) {
        String text = TEXTS.get(promise);
        boolean[] quoted = QUOTED.get(promise);
        int at = 0;
        for (String part : words.split(" \\.\\.\\. ")) {
            at = text.indexOf(part, at);
            if (at < 0) {
                Due.is("the document says '" + part + "'", false, true);
                return;
            }
            java.util.Arrays.fill(quoted, at, at + part.length(), true);
            at += part.length();
        }
    }

    /** No word of these promises is left without a test. */
    static void allOf(int first, int last) {
        System.out.print(tests + " sentences, ");
        for (int promise = first; promise <= last; promise++) {
            for (String left : leftOf(promise)) {
                Due.is((promise == TERMS ? "Terms" : "promise " + promise) + ": a test of the words '" + left + "'", false, true);
            }
        }
    }

    private static List<String> leftOf(int promise) {
        List<String> left = new ArrayList<>();
        StringBuilder b = new StringBuilder();
        String text = TEXTS.get(promise);
        boolean[] quoted = QUOTED.get(promise);
        for (int i = 0; i <= text.length(); i++) {
            if (i < text.length() && !quoted[i]) {
                b.append(text.charAt(i));
            } else {
                if (b.toString().matches(".*[A-Za-z0-9].*")) {
                    left.add(b.toString());
                }
                b.setLength(0);
            }
        }
        return left;
    }
}
