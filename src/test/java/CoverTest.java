import java.io.IOException;
import java.nio.file.Files;
import java.nio.file.Path;
import java.util.ArrayList;
import java.util.List;

/**
 * Holds the sentences that the tests name against the document: each is one of the document's, and each of the
 * document's is named by a test. A sentence is split where a semicolon stands; an item of a list is one by itself.
 */
final class CoverTest {
    private static final Due DUE = new Due("CoverTest");
    // What names no case at all: what the class is for, what a parameter is called, and headings.
    private static final List<String> PLAIN = List.of(
        "A laboratory for linear recurrences and sequences that are made of them: sums, products, subsequences and differences",
        "what later calls answer is free", "---- texts", "---- rows", "---- noughts", "---- what is done", "---- what is given",
        "---- what is told of all", "`row`: the row", "`row`: its part", "`one`: a row", "`one`: a part",
        "the results are given behind the calls",
        "The constructor and the methods follow, a promise each: the signature, then what it does");

    public static void main(String[] args) throws IOException {
        String shared = System.getenv("SHARED") == null ? "../shared" : System.getenv("SHARED");
        Path document = Path.of(shared, "DOC.md");
        if (!Files.exists(document)) {
            System.out.println("CoverTest: there is no " + document + " to hold the tests against");
            return;
        }
        List<String[]> units = units(Files.readAllLines(document));
        List<String[]> quotes = new ArrayList<>();
        for (Sentences test : tests()) quotes.addAll(test.quotes());
        for (String[] quote : quotes) {
            DUE.holds("the document says in " + quote[0] + ": " + quote[1], stands(quote, units));
        }
        for (String[] unit : units) {
            DUE.holds("a test of " + unit[0] + ": " + unit[1], PLAIN.contains(unit[1]) || isNamed(unit, quotes));
        }
        DUE.end();
    }

    private static List<Sentences> tests() {
        return List.of(new DescribedRowsTest(), new DescribedTextTest(), new DescribedNumbersTest(), new DescribedEaseTest(),
            new DescribedErrorsTest(), new TextsTest(), new RowsTest(), new RulesTest(), new DoneTest(), new GivenTest(),
            new OfAllTest());
    }

    /** The document's sentences, each with its section; the face and the examples' calls have tests of their own. */
    private static List<String[]> units(List<String> lines) {
        List<String[]> units = new ArrayList<>();
        String section = "";
        boolean fenced = false;
        for (String line : lines) {
            if (line.startsWith("```")) fenced = !fenced;
            if (line.startsWith("## ")) section = line.substring(3).replaceFirst(":.*", "");
            boolean isPlace = section.equals("What it is") || section.equals("Description") || section.startsWith("Promise");
            boolean isText = !line.startsWith("#") && !line.startsWith("`") && !line.matches("[1-4]\\. .*");
            if (!isPlace || fenced || !isText) continue;
            for (String part : line.replaceFirst("^- ", "").split("(?<=[.;])\\s+")) {
                if (!plain(part).isEmpty()) units.add(new String[] {section, plain(part)});
            }
        }
        return units;
    }

    private static String plain(String text) {
        return text.replaceAll("\\s+", " ").trim().replaceFirst("[.;]$", "").replaceFirst("\\.\\)$", ")");
    }

    /** The quote, or each of its parts, is in the document. */
    private static boolean stands(String[] quote, List<String[]> units) {
        for (String part : quote[1].split("(?<=[.;])\\s+")) {
            boolean found = false;
            for (String[] unit : units) found |= unit[0].equals(quote[0]) && unit[1].contains(plain(part));
            if (!found) return false;
        }
        return true;
    }

    private static boolean isNamed(String[] unit, List<String[]> quotes) {
        for (String[] quote : quotes) {
            String text = plain(quote[1]);
            if (quote[0].equals(unit[0]) && (unit[1].contains(text) || text.contains(unit[1]))) return true;
        }
        return false;
    }
}
