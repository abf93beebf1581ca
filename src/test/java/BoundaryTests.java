import java.io.IOException;
import java.nio.file.Files;
import java.nio.file.Path;
import java.util.ArrayList;
import java.util.List;
import java.util.TreeMap;

/**
 * Runs the boundary cases, each a test of its own, and sees to it that each sentence of the document has one.
 * With an argument, only the promise of this number is run, and its tests are told.
 */
public final class BoundaryTests {
    private static final Path DOCUMENT = Path.of("../shared/DOC.md");

    private static int wrong = 0;

    private static void fault(String text) {
        wrong++;
        System.out.println(text);
    }

    /** The lines of a text, in sentences, without the declaration in front; a blank is a single one everywhere. */
    private static List<String> sentences(String text) {
        List<String> sentences = new ArrayList<>();
        for (String line : text.split("\n")) {
            String plain = line.trim().replaceAll("\\s+", " ").replaceFirst("^`[^`]*\\)[^`]*`: ", "");
            if (!plain.isEmpty() && !plain.startsWith("```")) {
                sentences.addAll(List.of(plain.split("(?<=[.;]) (?=[A-Za-z\"])")));
            }
        }
        return sentences;
    }

    private static TreeMap<Integer, String> promises(String document) {
        TreeMap<Integer, String> promises = new TreeMap<>();
        for (String part : document.split("\n## Promise ")) {
            int colon = part.indexOf(':');
            if (colon > 0 && part.substring(0, colon).matches("\\d+")) {
                promises.put(Integer.parseInt(part.substring(0, colon)), part.substring(part.indexOf('\n')).split("\n## ")[0]);
            }
        }
        return promises;
    }

    private static String terms(String document) {
        return document.split("\n## Terms\n")[1].split("\n## ")[0];
    }

    private static String plain(String text) {
        return text.replaceAll("\\s+", " ");
    }

    /** Each test quotes its promise or the Terms. */
    private static void quotesStandThere(List<Boundary> cases, TreeMap<Integer, String> promises, String terms) {
        for (Boundary c : cases) {
            boolean stands = promises.containsKey(c.promise)
                && (plain(promises.get(c.promise)).contains(c.sentence) || plain(terms).contains(c.sentence));
            if (!stands) {
                fault("the document has no such sentence: " + c.name());
            }
        }
    }

    /** A title, or a line that only repeats the names of the calls. */
    private static boolean namesNoBoundary(String sentence) {
        return sentence.split(" ").length <= 3 || sentence.startsWith("Ahead of the calls");
    }

    private static boolean quoted(List<Boundary> cases, int promise, String sentence) {
        for (Boundary c : cases) {
            boolean meant = promise == 0 || c.promise == promise;
            if (meant && (sentence.contains(c.sentence) || c.sentence.contains(sentence))) {
                return true;
            }
        }
        return false;
    }

    private static void eachSentenceHasATest(List<Boundary> cases, TreeMap<Integer, String> promises, String terms) {
        for (String sentence : sentences(terms)) {
            if (!namesNoBoundary(sentence) && !quoted(cases, 0, sentence)) {
                fault("no test for the sentence of the Terms: " + sentence);
            }
        }
        promises.forEach((promise, text) -> {
            for (String sentence : sentences(text)) {
                if (!quoted(cases, promise, sentence)) {
                    fault("no test for the sentence of promise " + promise + ": " + sentence);
                }
            }
        });
    }

    private static void compareWithDocument(List<Boundary> cases) throws IOException {
        if (!Files.isReadable(DOCUMENT)) {
            System.out.println("there is no " + DOCUMENT + ": the sentences are not compared with it");
            return;
        }
        String document = Files.readString(DOCUMENT);
        TreeMap<Integer, String> promises = promises(document);
        if (promises.size() != 56) {
            fault("the document has " + promises.size() + " promises");
        }
        quotesStandThere(cases, promises, terms(document));
        eachSentenceHasATest(cases, promises, terms(document));
    }

    public static void main(String[] args) throws IOException {
        List<Boundary> cases = Boundary.all();
        int run = 0;
        for (Boundary c : cases) {
            if (args.length > 0 && c.promise != Integer.parseInt(args[0])) {
                continue;
            }
            run++;
            List<String> faults = c.faultsFound();
            for (String text : faults) {
                fault(c.name() + ": " + text);
            }
            if (args.length > 0) {
                System.out.println((faults.isEmpty() ? "as due: " : "not as due: ") + c.name());
            }
        }
        compareWithDocument(cases);
        System.out.println(wrong == 0 ? run + " boundary cases, all as due" : wrong + " faults in " + run + " boundary cases");
        if (wrong != 0) {
            System.exit(1);
        }
    }
}
