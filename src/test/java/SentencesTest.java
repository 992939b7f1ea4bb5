import java.io.IOException;
import java.nio.file.DirectoryStream;
import java.nio.file.Files;
import java.nio.file.Path;
import java.util.Map;
import java.util.TreeMap;
import java.util.TreeSet;
import java.util.regex.Matcher;
import java.util.regex.Pattern;

/** That each promise has tests of its boundary cases, which quote the document, and of each of its refusals. */
public final class SentencesTest {
    private static final int PROMISES = 29;
    private static final Pattern QUOTED = Pattern.compile("c\\.sentence\\((\\d+), \"((?:[^\"\\\\]|\\\\.)*)\"\\)");
    private static final Pattern REFUSED = Pattern.compile("Edges\\.refused\\(.*, -(\\d)\\);");
    private static final Pattern PROMISE = Pattern.compile("(?s)## Promise (\\d+): \\w.*?(?=\n## |$)");
    private static final Pattern REFUSAL = Pattern.compile("(?<=[ .])-([1-6])(?!\\d)");
    private static final Checks c = new Checks();

    private final String document;
    private final Map<Integer, TreeSet<Integer>> refused = new TreeMap<>();

    private SentencesTest(String document) {
        this.document = document;
    }

    public static void main(String[] args) throws IOException {
        SentencesTest all = new SentencesTest(Files.readString(Path.of("../shared/DOC.md")));
        try (DirectoryStream<Path> tests = Files.newDirectoryStream(Path.of("src/test/java"), "*EdgesTest.java")) {
            for (Path test : tests) {
                all.read(test);
            }
        }
        for (int promise = 1; promise <= PROMISES; promise++) {
            c.due("boundary cases of promise " + promise, all.refused.containsKey(promise) ? 1 : 0, 1);
        }
        all.refusalsOfTheDocument();
        c.end();
    }

    private static String plain(String words) {
        return words.replace("\\\"", "\"").replaceAll("\\s+", " ");
    }

    private void read(Path test) throws IOException {
        int promise = 0;
        for (String line : Files.readAllLines(test)) {
            Matcher quoted = QUOTED.matcher(line);
            if (quoted.find()) {
                promise = Integer.parseInt(quoted.group(1));
                refused.computeIfAbsent(promise, none -> new TreeSet<>());
                // A note alone: words of the document may be changed without a change of what they ask.
                if (!plain(document).contains(plain(quoted.group(2)))) {
                    System.out.println(test.getFileName() + ": not in the document: " + quoted.group(2));
                }
            }
            Matcher refusal = REFUSED.matcher(line);
            if (refusal.find() && promise > 0) {
                refused.get(promise).add(Integer.parseInt(refusal.group(1)));
            }
        }
    }

    private void refusalsOfTheDocument() {
        Matcher promised = PROMISE.matcher(document);
        int promises = 0;
        while (promised.find()) {
            promises++;
            int promise = Integer.parseInt(promised.group(1));
            Matcher refusal = REFUSAL.matcher(promised.group());
            // The last one tells the numbers of all refusals, and has none of its own.
            while (promise < PROMISES && refusal.find()) {
                int number = Integer.parseInt(refusal.group(1));
                boolean tested = refused.containsKey(promise) && refused.get(promise).contains(number);
                c.due("a refused call of promise " + promise + " by -" + number, tested ? 1 : 0, 1);
            }
        }
        c.due("promises of the document", promises, PROMISES);
    }
}
