import java.io.IOException;
import java.nio.file.Files;
import java.nio.file.Path;
import java.util.Set;
import java.util.TreeSet;

/**
 * Runs the tests that name the sentences which they are for, and compares these sentences with the
 * document: each one up to its last promise has a test that runs, and none is misquoted.
 */
final class SentencesTest {
    private static final Path DOCUMENT = Path.of("../shared/DOC.md");

    private static final Check CHECK = new Check();

    private static final int NO_SECTION = -1;

    public static void main(String[] args) throws IOException {
        if (!Files.isReadable(DOCUMENT)) {
            System.out.println("there is no " + DOCUMENT + " to compare with");
            return;
        }
        FaceTest.main(args);
        WholeLedgerTest.main(args);
        PurposesBoundaryTest.main(args);
        AddingBoundaryTest.main(args);
        RecordsBoundaryTest.main(args);
        UseBoundaryTest.main(args);
        DaysBoundaryTest.main(args);
        CasesBoundaryTest.main(args);
        ErasingBoundaryTest.main(args);
        TracesBoundaryTest.main(args);
        Set<String> due = sentencesOfTheDocument();
        for (String sentence : due) {
            if (!Check.SENTENCES.contains(sentence)) {
                CHECK.report("no test is for: " + sentence);
            }
        }
        for (String sentence : Check.SENTENCES) {
            if (!due.contains(sentence)) {
                CHECK.report("not in the document: " + sentence);
            }
        }
        CHECK.end();
    }

    private static Set<String> sentencesOfTheDocument() throws IOException {
        Set<String> sentences = new TreeSet<>();
        int section = NO_SECTION;
        for (String line : Files.readAllLines(DOCUMENT)) {
            if (line.startsWith("## ")) {
                section = sectionOf(line);
            } else if (section != NO_SECTION) {
                addSentences(sentences, section, line);
            }
        }
        return sentences;
    }

    private static int sectionOf(String heading) {
        String promise = "## Promise ";
        if (heading.startsWith(promise)) {
            return Integer.parseInt(heading.substring(promise.length(), heading.indexOf(':')));
        }
        boolean isForAll = heading.equals("## What it is") || heading.equals("## Terms");
        return isForAll ? Check.TERMS : NO_SECTION;
    }

    private static void addSentences(Set<String> sentences, int section, String line) {
        String text = line.startsWith("- ") ? line.substring(2) : line;
        if (section != Check.TERMS && line.startsWith("`")) {
            text = line.substring(line.indexOf("`: ") + 3);
        }
        for (String sentence : text.split("(?<=\\.) ")) {
            boolean isHeading = !sentence.contains(" ");
            if (!isHeading) {
                sentences.add(section + " " + sentence);
            }
        }
    }
}
