import java.io.IOException;
import java.nio.file.DirectoryStream;
import java.nio.file.Files;
import java.nio.file.Path;
import java.util.List;
import java.util.regex.Matcher;
import java.util.regex.Pattern;

/** No word of ../shared/DOC.md is left that no test quotes, but for what is looked at otherwise or asks nothing. */
public final class EverySentenceTest {
    /** Asked of the face by FaceTest, or asking nothing of the answers. */
    private static final List<String> ELSEWHERE = List.of(
        "(?s)```java.*?```", "(?m)^Ahead of the calls .*$", "(?m)^`(int|long) \\w+\\([^)]*\\)`:", "(?m)^#+ .*$", "```text",
        "(?m)^======== \\d ", "(?s)## Not promised\n.*");
    private static final Pattern QUOTED = Pattern.compile(
        "(?:edge\\((\\d+), |String \\w+ =\\s+)((?:\"(?:[^\"\\\\]|\\\\.)*\"\\s*\\+?\\s*)+)[,;]");
    private static final Pattern NAMED = Pattern.compile("edge\\((\\d+), (\\w+),");

    public static void main(String[] args) throws IOException {
        String document = Files.readString(Path.of("../shared/DOC.md"));
        boolean[] seen = new boolean[document.length()];
        int quotations = 0;
        try (DirectoryStream<Path> tests = Files.newDirectoryStream(Path.of("tests"), "*Test.java")) {
            for (Path test : tests) quotations += markQuoted(Files.readString(test), document, seen);
        }
        for (String elsewhere : ELSEWHERE) {
            Matcher m = Pattern.compile(elsewhere).matcher(document);
            while (m.find()) mark(seen, m.start(), m.end());
        }
        int left = tellLeft(document, seen);
        System.out.println(quotations + " quotations, " + left + " words of the document are in none of them");
        if (left != 0 || quotations < 300) System.exit(1);
    }

    private static void mark(boolean[] seen, int from, int to) {
        for (int i = from; i < to; i++) seen[i] = true;
    }

    private static int markQuoted(String test, String document, boolean[] seen) {
        int quotations = 0;
        Matcher m = QUOTED.matcher(test);
        while (m.find()) {
            String sentence = joined(m.group(2));
            if (m.group(1) != null) {
                markAll(Integer.parseInt(m.group(1)), sentence, document, seen);
                quotations++;
                continue;
            }
            // A sentence that bears a name for a while: the edges that call it by this name, behind this line.
            String name = test.substring(m.start() + "String ".length(), test.indexOf(" =", m.start()));
            int end = test.indexOf("\n    }\n", m.end());
            Matcher named = NAMED.matcher(test.substring(m.end(), end < 0 ? test.length() : end));
            while (named.find()) {
                if (!named.group(2).equals(name)) continue;
                markAll(Integer.parseInt(named.group(1)), sentence, document, seen);
                quotations++;
            }
        }
        return quotations;
    }

    private static String joined(String parts) {
        StringBuilder text = new StringBuilder();
        Matcher m = Pattern.compile("\"((?:[^\"\\\\]|\\\\.)*)\"").matcher(parts);
        while (m.find()) text.append(m.group(1));
        return text.toString();
    }

    /** Where the sentence stands under its promise or ahead of all promises. */
    private static void markAll(int promise, String sentence, String document, boolean[] seen) {
        int first = document.indexOf("## Promise 1:");
        int own = document.indexOf("## Promise " + promise + ":");
        int next = document.indexOf("\n## ", own);
        for (int at = document.indexOf(sentence); at >= 0; at = document.indexOf(sentence, at + 1)) {
            boolean ahead = at + sentence.length() <= first;
            if (ahead || at >= own && at < next) mark(seen, at, at + sentence.length());
        }
    }

    private static int tellLeft(String document, boolean[] seen) {
        int left = 0;
        Matcher m = Pattern.compile("[\\w!&|<>]+").matcher(document);
        while (m.find()) {
            boolean whole = true;
            for (int i = m.start(); i < m.end(); i++) whole &= seen[i];
            if (whole || m.group().matches("and|or")) continue;
            left++;
            int start = Math.max(0, m.start() - 60);
            int end = Math.min(document.length(), m.end() + 20);
            String near = document.substring(start, end).replace('\n', ' ');
            System.out.println("not quoted: " + m.group() + " in .." + near + "..");
        }
        return left;
    }
}
