import java.io.IOException;
import java.nio.file.Files;
import java.nio.file.Path;
import java.util.ArrayList;
import java.util.Arrays;
import java.util.List;
import java.util.TreeSet;
import java.util.regex.Pattern;

/**
 * Runs, each for one sentence of the document that names a boundary case. The sentence is told as it stands
 * in the document, and is looked for there: one that the document has no more is wrong.
 */
abstract class Edges {
    static final int PROMISES = 41;
    static final String ALL_LINES = "2097151";
    static final String ALL_KINDS = "127";

    /** The document: what stands before promise 1, then promise by promise. */
    private static final List<String> PARTS = new ArrayList<>();
    /** What was asked of a promise: its number, or its number and a finding. */
    private static final TreeSet<String> TESTED = new TreeSet<>();
    private static int number = 0;

    static void cutDocument() throws IOException {
        String document = Files.readString(Path.of("../shared/DOC.md")).replaceAll("\\s+", " ");
        PARTS.addAll(Arrays.asList(document.split("## Promise \\d+: ")));
        Runs.due("edges", "promises in the document", PARTS.size() - 1, PROMISES);
    }

    /** The sentences that come next are of the terms (0) or of a promise. */
    static void promise(int itsNumber) {
        number = itsNumber;
        TESTED.add("promise " + number);
    }

    static SeaParcels edge(String sentence, String... rows) {
        return edgeOn(new SeaParcels(), sentence, rows);
    }

    /** On an object on which calls have been made. */
    static SeaParcels edgeOn(SeaParcels x, String sentence, String... rows) {
        String title = "promise " + number + ", " + sentence;
        boolean stands = number < PARTS.size() && PARTS.get(number).contains(sentence);
        Runs.due(title, "it stands in the document", stands ? 1 : 0, 1);
        for (String row : rows) {
            TESTED.add("promise " + number + row.substring(row.lastIndexOf(' ')));
        }
        Runs.more(title, x, rows);
        return x;
    }

    /** Rows behind others. */
    static String[] behind(List<String> first, String... rows) {
        List<String> all = new ArrayList<>(first);
        all.addAll(Arrays.asList(rows));
        return all.toArray(new String[0]);
    }

    static List<String> times(int n, String... rows) {
        List<String> all = new ArrayList<>();
        for (int i = 0; i < n; i++) {
            all.addAll(Arrays.asList(rows));
        }
        return all;
    }

    /** Eight SOCKS on LINE 0. */
    static List<String> fullSlip() {
        List<String> all = new ArrayList<>();
        for (int i = 0; i < 8; i++) {
            all.add("parcel(5, 0) = " + i);
        }
        return all;
    }

    /** Four times as many bytes of THE TAPE, all blanks. */
    static List<String> fed(int n) {
        List<String> all = new ArrayList<>();
        for (int i = 1; i <= n; i++) {
            all.add("feed(538976288, 4) = " + 4 * i);
        }
        return all;
    }

    /** A text is told; what text() answers; then more rows. */
    static void read(String sentence, String text, int answer, String... rows) {
        List<String> first = List.of("tape \"" + text + "\"", "text() = " + answer, "count(5) = 0", "status(-1) = 0");
        edge(sentence, behind(first, rows));
    }

    /** A text has a FAULT: nothing that it tells is so. */
    static void fault(String sentence, String text, int place) {
        List<String> first = List.of("tide(0, 5) = 0", "set(1, 6) = 0", "parcel(2, 4) = 0");
        edge(sentence, behind(first, "tape \"" + text + "\"", "text() = " + (-1 - place), "count(5) = 0",
            "count(1) = 1", "listed(0) = 5", "now(6) = 11", "of(0, 1) = 4", "status(-1) = 0"));
    }

    /** DAY 99960: no 512 calls come so far, but the document tells what is so then. */
    static SeaParcels lateDays() {
        SeaParcels x = new SeaParcels();
        for (int i = 0; i < 1666; i++) {
            x.go(60);
        }
        Runs.more("behind 1666 * 60 DAYS", x, "now(0) = 99960");
        return x;
    }

    /** Each promise has a sentence that was tested, and each finding that it names was answered there. */
    static void allPromises() {
        for (int i = 1; i < PARTS.size(); i++) {
            Runs.due("promise " + i, "is tested", TESTED.contains("promise " + i) ? 1 : 0, 1);
            for (String finding : Runs.FINDINGS) {
                // With all HELD back LATE stays as now: holdBack() always has a set to tell.
                boolean never = i == 21 && finding.equals("NONE");
                if (!never && Pattern.compile("\\b" + finding + "(\\.|:| \\(counted)").matcher(PARTS.get(i)).find()) {
                    boolean answered = TESTED.contains("promise " + i + " " + finding);
                    Runs.due("promise " + i, finding + " is tested", answered ? 1 : 0, 1);
                }
            }
        }
    }
}
