import java.io.IOException;
import java.util.ArrayList;
import java.util.List;

/** Each sentence of the promises that names a boundary case, by a run of its own. */
public final class PromiseEdgesTest extends Edges {
    public static void main(String[] args) throws IOException {
        cutDocument();
        promises1to5();
        promises6to9();
        promises10and11();
        promises12to16();
        promises17to21();
        promises22and23();
        promises24to26();
        promises27to29();
        promises30and31();
        promises32and33();
        promise34();
        promises35and36();
        promises37to39();
        promises40and41();
        extremes();
        allPromises();
        Runs.end();
    }

    private static void promises1to5() {
        promise(1);
        edge("All as at first;", "listed(5) = 0", "now(0) = 0", "now(1) = 0", "now(2) = 0", "now(6) = 0", "count(6) = 1",
            "set(1, 0) = 0", "as(0, 0) = MISSING", "load(0) = MISSING", "status(-1) = 2", "status(5) = 2");
        edge("no PARCELS;", "count(1) = 0", "now(3) = 0", "now(4) = 0", "now(5) = 0", "now(7) = 0", "onLine(0) = 0",
            "of(0, 0) = BEYOND", "cleared() = 0", "go(60) = 0");
        edge("THE TAPE is empty", "count(5) = 0", "wipe() = 0", "text() = -1", "feed(65, 1) = 1");
        edge("no image is kept.", "undo() = NONE", "tear() = 0");
        promise(2);
        edge("THE LIST tells in place i (0 to 5) a TIDE (0 to 20): which it was. BEYOND.", "tide(0, 20) = 0",
            "tide(0, 0) = 20", "tide(5, 20) = 0", "tide(5, 0) = 20", "tide(-1, 0) = BEYOND", "tide(6, 0) = BEYOND",
            "tide(0, -1) = BEYOND", "tide(0, 21) = BEYOND", "tide(5, 0) = 0", "tide(0, 0) = 0", "status(0) = 4");
        promise(3);
        edge("The TIDE in a place of THE LIST. BEYOND.", "tide(0, 4) = 0", "tide(5, 9) = 0", "listed(0) = 4",
            "listed(5) = 9", "listed(-1) = BEYOND", "listed(6) = BEYOND", "status(0) = 2");
        promise(4);
        edge("LATE (what 0), STORM (1) becomes v: what it was. BEYOND.", "set(0, 9999) = 0", "set(0, 0) = 9999",
            "set(1, 9) = 0", "set(1, 0) = 9", "set(0, 10000) = BEYOND", "set(0, -1) = BEYOND", "set(1, 10) = BEYOND",
            "set(1, -1) = BEYOND", "set(2, 0) = BEYOND", "set(-1, 0) = BEYOND", "set(0, 0) = 0", "set(1, 0) = 0",
            "status(0) = 6");
        promise(5);
        edge("A new PARCEL on a LINE: its number. BEYOND. FULL.", "parcel(0, 0) = 0", "parcel(6, 20) = 1",
            "parcel(-1, 0) = BEYOND", "parcel(7, 0) = BEYOND", "parcel(0, -1) = BEYOND", "parcel(0, 21) = BEYOND",
            "count(1) = 2", "of(0, 0) = 0", "of(0, 1) = 0", "of(1, 0) = 6", "of(1, 1) = 20", "status(0) = 4");
        edge("FULL.", behind(fullSlip(), "parcel(0, 0) = FULL", "count(1) = 8", "status(1) = 1", "status(0) = 0"));
        edge("FULL.", "image() = 1", "parcel(0, 0) = 0", "parcel(0, 0) = 1", "parcel(0, 0) = 2", "parcel(0, 0) = 3",
            "parcel(0, 0) = 4", "parcel(0, 0) = 5", "parcel(0, 0) = 6", "parcel(0, 0) = 7", "parcel(0, 0) = FULL",
            "undo() = 0", "parcel(0, 0) = 0");
        edge("A new PARCEL on a LINE: its number.", "image() = 1", "parcel(4, 9) = 0", "change(0, 2, 7) = 10",
            "change(0, 3, 2) = 0", "change(0, 4, 2) = 0", "change(0, 5, 1) = 0", "change(0, 6, 3) = 0",
            "ahead(0, 1, 0) = 9", "undo() = 0", "count(1) = 0", "parcel(2, 0) = 0", "of(0, 0) = 2", "of(0, 1) = 0",
            "of(0, 2) = 10", "of(0, 3) = 0", "of(0, 4) = 0", "of(0, 5) = 0", "of(0, 6) = 0");
    }

    private static void promises6to9() {
        promise(6);
        edge("Of a PARCEL: what 0 KIND, 1 LINE, 2 WEIGHT, 3 WAITS, 4 STATE, 5 HELD, 6 TURNED, 7 MOVES, 8 LASTS, "
            + "9 PAYS, 10 DELAYS. BEYOND.", "of(0, 0) = BEYOND", "parcel(3, 20) = 0", "of(0, 0) = 3", "of(0, 1) = 20",
            "of(0, 2) = 10", "of(0, 3) = 0", "of(0, 4) = 0", "of(0, 5) = 0", "of(0, 6) = 0", "of(0, 7) = 1",
            "of(0, 8) = 24", "of(0, 9) = 12", "of(0, 10) = 1", "of(0, 11) = BEYOND", "of(0, -1) = BEYOND",
            "of(1, 0) = BEYOND", "of(-1, 0) = BEYOND", "status(0) = 5");
        promise(7);
        String change = "KIND (what 0), LINE (1), WEIGHT (2), WAITS (3), STATE (4), HELD (5), TURNED (6) of a PARCEL "
            + "becomes v: what it was. BEYOND.";
        int[] least = {0, 0, 1, 0, 0, 0, 0};
        int[] most = {6, 20, 99, 9999, 2, 1, 9999};
        int[] first = {2, 4, 10, 0, 0, 0, 0};
        for (int what = 0; what < least.length; what++) {
            String begin = "change(0, " + what + ", ";
            edge(change, begin + "1) = BEYOND", "parcel(2, 4) = 0", begin + most[what] + ") = " + first[what],
                begin + (most[what] + 1) + ") = BEYOND", begin + (least[what] - 1) + ") = BEYOND",
                begin + least[what] + ") = " + most[what], "of(0, " + what + ") = " + least[what],
                "change(1, " + what + ", 1) = BEYOND", "change(-1, " + what + ", 1) = BEYOND",
                "of(0, " + what + ") = " + least[what], "status(0) = 5");
        }
        edge(change, "parcel(2, 4) = 0", "change(0, 7, 1) = BEYOND", "change(0, -1, 1) = BEYOND",
            "change(0, 10, 1) = BEYOND", "status(0) = 3");
        promise(8);
        edge("Whether a PARCEL would be SIGNED for by a TIDE (0 to 29) now (1, 0; whatever its STATE, HELD or not). "
            + "BEYOND.", "signs(0, 0) = BEYOND", "parcel(0, 0) = 0", "signs(0, 0) = 1", "signs(0, 29) = 1",
            "signs(0, 30) = BEYOND", "signs(0, -1) = BEYOND", "signs(1, 0) = BEYOND", "signs(-1, 0) = BEYOND",
            "status(0) = 5");
        edge("whatever its STATE, HELD or not", "parcel(0, 5) = 0", "change(0, 5, 1) = 0", "signs(0, 5) = 1",
            "signs(0, 4) = 0", "change(0, 4, 1) = 0", "signs(0, 5) = 1", "change(0, 4, 2) = 1", "signs(0, 5) = 1",
            "signs(0, 4) = 0");
        promise(9);
        edge("PARCELS that lie on a LINE, as a set. BEYOND.", behind(fullSlip(), "onLine(0) = 255", "onLine(20) = 0",
            "change(7, 1, 20) = 0", "onLine(20) = 128", "onLine(0) = 127", "change(0, 4, 1) = 0",
            "change(1, 4, 2) = 0", "change(2, 5, 1) = 0", "onLine(0) = 124", "onLine(-1) = BEYOND",
            "onLine(21) = BEYOND", "status(0) = 2"));
    }

    private static void promises10and11() {
        promise(10);
        edge("n DAYS (1 to 60): PARCELS that are taken then, as a set. BEYOND.", "parcel(0, 0) = 0",
            "parcel(0, 20) = 1", "go(0) = BEYOND", "go(-1) = BEYOND", "go(61) = BEYOND", "now(0) = 0", "go(1) = 1",
            "now(0) = 1", "go(60) = 1", "now(0) = 61", "status(0) = 3");
        edge("PARCELS that are taken then, as a set.", behind(fullSlip(), "go(1) = 0", "tide(1, 1) = 0", "go(1) = 255"));
        edgeOn(lateDays(), "STATE: DAY would be above 99999.", "go(40) = STATE", "now(0) = 99960", "go(60) = STATE",
            "go(39) = 0", "now(0) = 99999", "go(1) = STATE", "now(0) = 99999", "status(4) = 3");
        promise(11);
        edge("What 0 DAY, 1 AMBER, 2 LATE, 3 PARCELS that lie, as a set, 4 PARCELS that are taken, as a set, 5 PARCELS "
            + "that are spoilt, as a set, 6 THE TIDE of this DAY, 7 WEIGHT of all that lie together. BEYOND.",
            "now(-1) = BEYOND", "now(8) = BEYOND", "now(0) = 0", "now(7) = 0", "status(0) = 2");
        List<String> heavy = fullSlip();
        for (int i = 0; i < 8; i++) {
            heavy.add("change(" + i + ", 2, 99) = 10");
        }
        edge("7 WEIGHT of all that lie together.", behind(heavy, "now(7) = 792", "now(3) = 255",
            "change(0, 4, 1) = 0", "change(7, 4, 2) = 0", "change(1, 5, 1) = 0", "now(7) = 594", "now(3) = 126",
            "now(4) = 1", "now(5) = 128"));
    }

    private static void promises12to16() {
        promise(12);
        edge("What 1, 3, 4, 6 (as in of()) of a PARCEL behind n (0 to 100) DAYS. BEYOND.", "ahead(0, 1, 0) = BEYOND",
            "parcel(4, 20) = 0", "tide(3, 19) = 0", "ahead(0, 3, 0) = 0", "ahead(0, 3, 1) = 1", "ahead(0, 3, 99) = 99",
            "ahead(0, 3, 100) = 100", "ahead(0, 6, 100) = 17", "ahead(0, 1, 100) = 20", "ahead(0, 4, 100) = 0",
            "ahead(0, 3, 101) = BEYOND", "ahead(0, 3, -1) = BEYOND", "ahead(0, 0, 1) = BEYOND",
            "ahead(0, 2, 1) = BEYOND", "ahead(0, 5, 1) = BEYOND", "ahead(0, 7, 1) = BEYOND", "ahead(0, -1, 1) = BEYOND",
            "ahead(1, 1, 1) = BEYOND", "ahead(-1, 1, 1) = BEYOND", "of(0, 3) = 0", "status(0) = 10");
        promise(13);
        edge("AMBER (what 1), LATE (2), THE TIDE of the DAY then (6) behind n (0 to 100) DAYS. BEYOND.",
            "tide(0, 3) = 0", "tide(3, 13) = 0", "tide(4, 14) = 0", "sea(6, 0) = 3", "sea(6, 99) = 13", "sea(6, 100) = 14",
            "sea(1, 0) = 0", "sea(2, 0) = 0", "sea(6, 101) = BEYOND", "sea(6, -1) = BEYOND", "sea(1, 101) = BEYOND",
            "sea(2, -1) = BEYOND", "sea(0, 1) = BEYOND", "sea(3, 1) = BEYOND", "sea(5, 1) = BEYOND",
            "sea(7, 1) = BEYOND", "now(0) = 0", "status(0) = 8");
        promise(14);
        String when = "Behind how many DAYS (0 to 200, the fewest) a PARCEL is taken (state 1), spoilt (2).";
        edge(when, "tide(0, 6) = 0", "parcel(0, 6) = 0", "parcel(0, 20) = 1", "when(0, 1) = 1", "when(1, 2) = 13",
            "change(0, 4, 1) = 0", "when(0, 1) = 0", "change(1, 4, 2) = 0", "when(1, 2) = 0");
        edge("BEYOND: also another state.", "parcel(0, 0) = 0", "when(0, 0) = BEYOND", "when(0, 3) = BEYOND",
            "when(0, -1) = BEYOND", "when(1, 1) = BEYOND", "when(-1, 1) = BEYOND", "when(0, 1) = 1", "status(0) = 5");
        edge("NONE.", "parcel(0, 0) = 0", "parcel(0, 20) = 1", "parcel(4, 20) = 2", "when(0, 2) = NONE",
            "when(1, 1) = NONE", "when(2, 1) = NONE", "when(2, 2) = NONE", "change(1, 4, 2) = 0", "when(1, 1) = NONE",
            "status(3) = 5", "now(0) = 0");
        promise(15);
        edge("Behind how many DAYS (0 to 200, the fewest) nothing lies on the slip any more.", "cleared() = 0",
            "parcel(0, 0) = 0", "cleared() = 1", "parcel(6, 20) = 1", "cleared() = 67", "change(0, 4, 1) = 0",
            "change(1, 4, 2) = 0", "cleared() = 0");
        edge("NONE.", "parcel(4, 20) = 0", "cleared() = NONE", "change(0, 4, 2) = 0", "cleared() = 0",
            "status(3) = 1");
        promise(16);
        edge("Behind how many DAYS (0 to 200, the fewest) AMBER is v (0 to 99999) or more. BEYOND.", "paid(0) = 0",
            "tide(1, 6) = 0", "parcel(2, 6) = 0", "paid(0) = 0", "paid(1) = 2", "paid(2) = 2", "paid(3) = NONE",
            "go(2) = 1", "paid(2) = 0", "paid(-1) = BEYOND", "paid(100000) = BEYOND", "paid(99999) = NONE",
            "status(0) = 2", "status(3) = 2");
        edge("NONE.", "paid(1) = NONE", "status(3) = 1");
    }

    /**
     * A coast on which BRIDE 3 is taken behind 60 DAYS, no sooner: three others make the sea pass over its
     * place of THE LIST, then it is turned over on every sixth DAY from 17 to 53.
     */
    private static List<String> sixtyDays() {
        return List.of("tide(4, 10) = 0", "tide(5, 20) = 0", "parcel(4, 10) = 0", "parcel(4, 10) = 1",
            "parcel(4, 10) = 2", "parcel(4, 20) = 3", "change(0, 6, 7) = 0", "change(1, 6, 6) = 0",
            "change(2, 6, 5) = 0", "when(3, 1) = 60");
    }

    private static void promises17to21() {
        promise(17);
        String line = "The greatest LINE on which a PARCEL must lie now to be taken behind n (0 to 60) DAYS. BEYOND.";
        edge(line, behind(sixtyDays(), "lineFor(3, 60) = 20", "lineFor(3, 59) = 13", "lineFor(3, 61) = BEYOND",
            "lineFor(3, -1) = BEYOND", "lineFor(4, 1) = BEYOND", "lineFor(-1, 1) = BEYOND", "lineFor(3, 0) = NONE",
            "of(3, 1) = 20", "status(0) = 4", "status(3) = 1"));
        edge(line, "tide(0, 20) = 0", "parcel(0, 5) = 0", "lineFor(0, 1) = 20", "tide(0, 0) = 20", "lineFor(0, 1) = 0",
            "lineFor(0, 0) = NONE", "change(0, 4, 1) = 0", "lineFor(0, 0) = 20");
        edge("NONE.", "parcel(2, 5) = 0", "change(0, 2, 20) = 10", "lineFor(0, 60) = NONE", "change(0, 2, 19) = 20",
            "lineFor(0, 60) = 0", "status(3) = 1");
        edge("NONE.", "tide(0, 20) = 0", "parcel(0, 5) = 0", "lineFor(0, 0) = NONE", "change(0, 5, 1) = 0",
            "lineFor(0, 60) = NONE", "change(0, 4, 2) = 0", "lineFor(0, 60) = NONE", "status(3) = 3");
        promise(18);
        String weight = "The greatest WEIGHT (1 to 99) with which it is taken behind n (0 to 60) DAYS. BEYOND.";
        edge(weight, behind(sixtyDays(), "weightFor(3, 60) = 19", "weightFor(3, 59) = NONE", "weightFor(3, 61) = BEYOND",
            "weightFor(3, -1) = BEYOND", "weightFor(4, 1) = BEYOND", "weightFor(-1, 1) = BEYOND", "of(3, 2) = 10",
            "status(0) = 4"));
        edge(weight, "tide(0, 10) = 0", "parcel(2, 6) = 0", "weightFor(0, 1) = 99", "change(0, 1, 7) = 6",
            "weightFor(0, 1) = 79", "change(0, 1, 10) = 7", "weightFor(0, 1) = 19", "change(0, 4, 1) = 0",
            "weightFor(0, 0) = 99");
        edge("NONE.", "tide(0, 10) = 0", "parcel(2, 11) = 0", "weightFor(0, 60) = NONE", "weightFor(0, 0) = NONE",
            "status(3) = 2");
        promise(19);
        edge("The KIND of which it must be, so that AMBER is most behind n (0 to 60) DAYS. BEYOND.",
            behind(sixtyDays(), "kindFor(3, 60) = 4", "kindFor(3, 59) = 3", "kindFor(3, 0) = 0", "kindFor(3, 61) = BEYOND",
                "kindFor(3, -1) = BEYOND", "kindFor(4, 1) = BEYOND", "kindFor(-1, 1) = BEYOND", "of(3, 0) = 4",
                "status(-1) = 4", "status(0) = 4"));
        promise(20);
        String storm = "The least STORM (0 to 9) with which a PARCEL is taken behind n (0 to 60) DAYS. BEYOND.";
        edge(storm, behind(sixtyDays(), "stormFor(3, 60) = 0", "stormFor(3, 59) = 7", "stormFor(3, 61) = BEYOND",
            "stormFor(3, -1) = BEYOND", "stormFor(4, 1) = BEYOND", "stormFor(-1, 1) = BEYOND", "stormFor(3, 0) = NONE",
            "set(1, 0) = 0", "status(0) = 4", "status(3) = 1"));
        edge(storm, "parcel(0, 9) = 0", "stormFor(0, 1) = 9", "change(0, 1, 0) = 9", "stormFor(0, 1) = 0",
            "set(1, 9) = 0", "stormFor(0, 1) = 0", "change(0, 4, 1) = 0", "stormFor(0, 0) = 0");
        edge("NONE.", "parcel(0, 10) = 0", "stormFor(0, 1) = NONE", "stormFor(0, 60) = NONE", "stormFor(0, 0) = NONE",
            "status(3) = 3");
        promise(21);
        String hold = "The set of fewest PARCELS such that, if these are HELD back, too, from now on, LATE is as now "
            + "behind n (0 to 20) DAYS; of several the least. BEYOND.";
        edge(hold, "tide(1, 9) = 0", "parcel(4, 9) = 0", "change(0, 6, 4) = 0", "when(0, 1) = 20", "holdBack(0) = 0",
            "holdBack(19) = 0", "holdBack(20) = 1", "holdBack(21) = BEYOND", "holdBack(-1) = BEYOND", "status(-1) = 2");
        edge(hold, "holdBack(20) = 0", "parcel(3, 0) = 0", "parcel(3, 0) = 1", "parcel(3, 0) = 2", "parcel(3, 0) = 3",
            "parcel(3, 0) = 4", "parcel(3, 0) = 5", "parcel(3, 0) = 6", "parcel(3, 0) = 7", "holdBack(0) = 0",
            "holdBack(1) = 255", "change(7, 5, 1) = 0", "holdBack(1) = 127", "set(0, 9999) = 0", "holdBack(20) = 0",
            "set(0, 9998) = 9999", "holdBack(20) = 127", "status(-1) = 0");
        edge(hold, "tide(0, 6) = 0", "tide(3, 10) = 0", "parcel(0, 6) = 0", "parcel(3, 6) = 1", "parcel(2, 6) = 2",
            "parcel(3, 10) = 3", "holdBack(1) = 0b10", "holdBack(3) = 0b10", "holdBack(4) = 0b1010");
        edge(hold, "tide(0, 6) = 0", "tide(3, 12) = 0", "parcel(3, 6) = 0", "parcel(3, 12) = 1", "ahead(1, 4, 3) = 1",
            "holdBack(3) = 0b1", "holdBack(4) = 0b11");
        edge("NONE.", "tide(0, 20) = 0", "parcel(3, 6) = 0", "parcel(4, 6) = 1", "change(1, 6, 7) = 0",
            "holdBack(20) = 0b11", "change(0, 5, 1) = 0", "holdBack(20) = 0b10", "change(1, 5, 1) = 0",
            "holdBack(20) = 0", "status(-1) = 0");
    }

    private static void promises22and23() {
        promise(22);
        String fits = "(number i: behind i + 1 DAYS; -1: any)";
        edge(fits, "tide(0, 6) = 0", "parcel(0, 20) = 0", "sheet(0, 8, 1) = 1", "write(0, 0, 9) = 1",
            "fits(0, 0) = 0b10000000", "write(0, 0, 0) = 1", "fits(0, 0) = 0b1", "write(0, 0, 20) = 1",
            "fits(0, 0) = 0b100000000000000000000", "write(0, 0, 21) = 1", "fits(0, 0) = 0", "write(0, 0, -2) = 1",
            "fits(0, 0) = 0", "write(0, 0, -1) = 1", "fits(0, 0) = " + ALL_LINES, "of(0, 1) = 20", "now(0) = 0");
        edge(fits, behind(times(1, "parcel(0, 4) = 0", "sheet(0, 8, 0) = 0"), "fits(0, 0) = " + ALL_LINES));
        List<String> rows = new ArrayList<>(List.of("parcel(0, 4) = 0", "sheet(0, 16, 40) = 40"));
        for (int i = 0; i < 39; i++) {
            rows.add("write(0, " + i + ", -1) = 1");
        }
        edge(fits, behind(rows, "write(0, 39, 5) = 1", "fits(0, 0) = 0b100000", "write(0, 39, -1) = 1",
            "fits(0, 0) = " + ALL_LINES));
        edge("BEYOND: no such sheet. MISSING. BEYOND: no such PARCEL.", "fits(-1, 0) = BEYOND", "fits(4, 0) = BEYOND",
            "fits(3, 0) = MISSING", "sheet(3, 8, 1) = 1", "fits(3, 0) = BEYOND", "parcel(0, 0) = 0", "fits(3, 0) = 1",
            "fits(3, 1) = BEYOND", "fits(3, -1) = BEYOND", "sheet(3, 0, 1) = 0", "fits(3, 0) = MISSING",
            "status(0) = 5", "status(5) = 2");
        promise(23);
        edge("KINDS that it could be of, as a set, likewise.", "tide(0, 6) = 0", "parcel(0, 7) = 0", "sheet(0, 8, 0) = 0",
            "kinds(0, 0) = " + ALL_KINDS, "sheet(0, 8, 1) = 1", "kinds(0, 0) = 0", "write(0, 0, 9) = 1",
            "kinds(0, 0) = 0b1", "write(0, 0, 8) = 1", "kinds(0, 0) = 0b1001110", "write(0, 0, 7) = 1",
            "kinds(0, 0) = 0b110000", "write(0, 0, -1) = 1", "kinds(0, 0) = " + ALL_KINDS, "write(0, 0, -2) = 1",
            "kinds(0, 0) = 0", "of(0, 0) = 0", "now(0) = 0");
        edge("BEYOND: no such sheet. MISSING. BEYOND: no such PARCEL.", "kinds(-1, 0) = BEYOND", "kinds(4, 0) = BEYOND",
            "kinds(3, 0) = MISSING", "sheet(3, 8, 1) = 1", "kinds(3, 0) = BEYOND", "parcel(0, 0) = 0",
            "kinds(3, 0) = 127", "kinds(3, 1) = BEYOND", "kinds(3, -1) = BEYOND", "sheet(3, 0, 1) = 0",
            "kinds(3, 0) = MISSING", "status(0) = 5", "status(5) = 2");
    }

    private static void promises24to26() {
        promise(24);
        String swell = "n times (1 to 20) two draws:";
        edge(swell, "swell(0) = BEYOND", "swell(21) = BEYOND", "swell(-1) = BEYOND", "now(0) = 0", "count(6) = 1",
            "swell(1) = 0", "now(0) = 1", "swell(20) = 0", "now(0) = 21", "status(0) = 3");
        int z = 1;
        for (int i = 0; i < 40; i++) {
            z = z * 1103515245 + 12345;
        }
        edge(swell, "swell(20) = 0", "count(6) = " + z, "now(0) = 20");
        swellByHand();
        edgeOn(lateDays(), "STATE: DAY would be above 99999.", "go(20) = 0", "swell(20) = STATE",
            "count(6) = 1", "now(0) = 99980", "swell(19) = 0", "now(0) = 99999", "swell(1) = STATE", "now(0) = 99999",
            "status(4) = 2");
        promise(25);
        edge("The odds that none of n (0 to 13) TIDES", "parcel(0, 3) = 0", "odds(0, 0, 0) = 1", "odds(0, 0, 1) = 1",
            "odds(0, 13, 0) = 1", "odds(0, 13, 1) = 96889010407", "odds(0, 14, 0) = BEYOND", "odds(0, -1, 0) = BEYOND",
            "odds(1, 1, 0) = BEYOND", "odds(-1, 1, 0) = BEYOND", "odds(0, 1, 2) = BEYOND", "odds(0, 1, -1) = BEYOND",
            "status(0) = 6");
        edge("each the rest by 21 of a draw (without STORM)", "parcel(0, 20) = 0", "odds(0, 1, 0) = 20",
            "odds(0, 1, 1) = 21", "odds(0, 13, 0) = 81920000000000000", "odds(0, 13, 1) = 154472377739119461",
            "set(1, 9) = 0", "odds(0, 1, 0) = 20", "change(0, 1, 0) = 20", "odds(0, 1, 0) = 0", "odds(0, 0, 0) = 1");
        edge("a fraction in lowest terms", "parcel(0, 7) = 0", "odds(0, 1, 0) = 1", "odds(0, 1, 1) = 3",
            "change(0, 1, 0) = 7", "odds(0, 13, 0) = 0", "odds(0, 13, 1) = 1", "change(0, 0, 4) = 0",
            "odds(0, 13, 0) = 1", "odds(0, 13, 1) = 1", "change(0, 0, 0) = 4", "change(0, 1, 6) = 0",
            "odds(0, 2, 0) = 4", "odds(0, 2, 1) = 49");
        promise(26);
        edge("z becomes v: what it was.", "seed(MIN) = 1", "seed(MAX) = MIN", "seed(0) = MAX", "seed(1) = 0",
            "count(6) = 1", "status(-1) = 0");
    }

    /** Each time two draws, then a DAY: what is taken then is told by LINES that one tide alone reaches. */
    private static void swellByHand() {
        int z = 1;
        int[] list = new int[6];
        boolean taken = false;
        for (int n = 1; n <= 12; n++) {
            z = z * 1103515245 + 12345;
            int place = (z >>> 8) % 6;
            z = z * 1103515245 + 12345;
            list[place] = (z >>> 8) % 21;
            taken |= list[(n - 1) % 6] > 0;
            edge("THE LIST tells in the place of the first one's rest by 6 the TIDE of the second one's rest by 21; "
                + "then a DAY: PARCELS that are taken then, as a set.", "parcel(5, 9) = 0", "swell(" + n + ") = "
                + (taken ? 1 : 0), "listed(0) = " + list[0], "listed(1) = " + list[1], "listed(2) = " + list[2],
                "listed(3) = " + list[3], "listed(4) = " + list[4], "listed(5) = " + list[5]);
        }
    }

    private static void promises27to29() {
        promise(27);
        String feed = "THE TAPE gets the n lowest bytes of a number behind it, the highest of these first (n 1 to 4): "
            + "how many it has. BEYOND: n.";
        edge(feed, "feed(65, 0) = BEYOND", "feed(65, 5) = BEYOND", "feed(65, -1) = BEYOND", "count(5) = 0",
            "feed(65, 1) = 1", "feed(65, 2) = 3", "feed(65, 3) = 6", "feed(-65, 4) = 10", "count(5) = 10",
            "status(0) = 3");
        // "tide 3 7": each byte cut out of a greater number.
        edge(feed, "feed(1953064037, 4) = 4", "feed(-14671840, 1) = 5", "feed(1094923040, 2) = 7",
            "feed(924387895, 1) = 8", "text() = 1", "listed(3) = 7");
        edge("FULL.", behind(fed(29), "feed(0, 3) = 119", "feed(0, 2) = FULL", "feed(0, 4) = FULL",
            "count(5) = 119", "feed(0, 1) = 120", "feed(0, 1) = FULL", "count(5) = 120", "status(1) = 3", "wipe() = 120",
            "feed(0, 4) = 4"));
        promise(28);
        edge("THE TAPE is empty: how many it had.", "wipe() = 0", "feed(0, 3) = 3", "wipe() = 3", "wipe() = 0",
            "count(5) = 0");
        promise(29);
        edge("THE TAPE is a TEXT, and empty then; all that it tells is so, item by item: how many ITEMS.",
            "tape \"storm 1;storm 2;tide 0 9;tide 0 8;parcel on 3\"", "text() = 5", "count(5) = 0", "set(1, 0) = 2",
            "listed(0) = 8", "of(0, 1) = 3", "text() = -1");
        edge("With a FAULT: -1 less the FAULT (nothing changes but that THE TAPE is empty; no finding).",
            "tide(0, 9) = 0", "tape \"storm 1;tide 0 3;parcel;storm 10\"", "text() = -31", "count(5) = 0",
            "set(1, 0) = 0", "listed(0) = 9", "count(1) = 0", "status(-1) = 0", "text() = -1", "status(-1) = 0");
        StringBuilder blanks = new StringBuilder();
        for (int i = 0; i < 119; i++) {
            blanks.append(' ');
        }
        edge("With a FAULT: -1 less the FAULT (nothing changes but that THE TAPE is empty; no finding).",
            "tape \"" + blanks + "x\"", "count(5) = 120", "text() = -120", "tape \"" + blanks + " \"", "text() = -121",
            "status(-1) = 0");
    }

    private static void promises30and31() {
        promise(30);
        edge("A SPOT holds a PARCEL, or nothing (-1): 1. BEYOND.", "hold(0, 0) = BEYOND", "hold(0, -1) = 1",
            "hold(9, -1) = 1", "parcel(0, 0) = 0", "hold(0, 0) = 1", "hold(9, 0) = 1", "count(7) = 2",
            "hold(-1, 0) = BEYOND", "hold(10, 0) = BEYOND", "hold(-1, -1) = BEYOND", "hold(10, -1) = BEYOND",
            "hold(0, 1) = BEYOND", "hold(0, -2) = BEYOND", "as(0, 0) = 0", "hold(0, -1) = 1", "hold(0, -1) = 1",
            "count(7) = 1", "status(0) = 7");
        edge("A SPOT holds a PARCEL, or nothing (-1): 1. BEYOND.", behind(fullSlip(), "hold(5, 7) = 1",
            "hold(6, 8) = BEYOND", "as(5, 5) = 7", "as(6, 5) = MISSING"));
        promise(31);
        edge("What a SPOT holds as one of a kind (0 to 6): the number of the PARCEL. BEYOND.", "parcel(0, 0) = 0",
            "parcel(6, 0) = 1", "hold(0, 0) = 1", "hold(9, 1) = 1", "as(0, 0) = 0", "as(9, 6) = 1", "as(9, 1) = 1",
            "as(9, 0) = 1", "as(-1, 0) = BEYOND", "as(10, 0) = BEYOND", "as(0, -1) = BEYOND", "as(0, 7) = BEYOND",
            "status(0) = 4");
        edge("MISSING: it holds nothing.", "as(3, 0) = MISSING", "parcel(0, 0) = 0", "hold(3, 0) = 1", "as(3, 0) = 0",
            "hold(3, -1) = 1", "as(3, 0) = MISSING", "status(5) = 2");
        int[] under = {0b1, 0b11, 0b101, 0b1101, 0b11101, 0b100001, 0b1000011};
        for (int kind = 0; kind < under.length; kind++) {
            List<String> rows = new ArrayList<>(List.of("parcel(" + kind + ", 0) = 0", "hold(3, 0) = 1"));
            for (int asked = 0; asked < under.length; asked++) {
                rows.add("as(3, " + asked + ") = " + ((under[kind] >> asked & 1) == 1 ? "0" : "KIND"));
            }
            rows.add("status(2) = " + (7 - Integer.bitCount(under[kind])));
            edge("KIND: it isn't of that kind, nor of one under it.", rows.toArray(new String[0]));
        }
    }

    private static void promises32and33() {
        promise(32);
        edge("A sheet has n numbers, all 0, of 8, 16 or 32 bits", "sheet(0, 8, 0) = 0", "load(0) = 0",
            "sheet(0, 8, 1) = 1", "write(0, 0, 9) = 1", "load(0) = 1", "listed(0) = 9", "sheet(0, 8, 2) = 2",
            "load(0) = 2", "listed(0) = 0", "sheet(0, 16, 40) = 40", "sheet(0, 32, 40) = 40");
        edge("bits 0: it is MISSING: n (0 if it is MISSING).", "sheet(0, 8, 5) = 5", "sheet(0, 0, 5) = 0",
            "load(0) = MISSING", "sheet(0, 0, 0) = 0", "sheet(0, 0, 40) = 0", "load(0) = MISSING", "status(-1) = 2");
        edge("BEYOND: no such sheet, other bits.", "sheet(-1, 8, 1) = BEYOND", "sheet(4, 8, 1) = BEYOND",
            "sheet(4, 0, 0) = BEYOND", "sheet(0, 1, 1) = BEYOND", "sheet(0, 7, 1) = BEYOND", "sheet(0, 9, 1) = BEYOND",
            "sheet(0, 15, 1) = BEYOND", "sheet(0, 17, 1) = BEYOND", "sheet(0, 31, 1) = BEYOND", "sheet(0, 33, 1) = BEYOND",
            "sheet(0, 64, 1) = BEYOND", "sheet(0, -8, 1) = BEYOND", "sheet(0, 24, 1) = BEYOND", "load(0) = MISSING",
            "status(0) = 13");
        edge("SIZE: n is below 0 (also with bits 0).", "sheet(0, 8, 2) = 2", "sheet(0, 8, -1) = SIZE",
            "sheet(0, 16, -1) = SIZE", "sheet(0, 32, MIN) = SIZE", "sheet(0, 0, -1) = SIZE", "load(0) = 2",
            "status(6) = 4");
        edge("BEYOND: n is above 40 (also with bits 0).", "sheet(0, 8, 2) = 2", "sheet(0, 8, 41) = BEYOND",
            "sheet(0, 16, 41) = BEYOND", "sheet(0, 32, MAX) = BEYOND", "sheet(0, 0, 41) = BEYOND", "load(0) = 2",
            "status(0) = 4");
        promise(33);
        edge("Number i of a sheet becomes v (its lowest bits): 1.", "parcel(0, 5) = 0", "sheet(0, 8, 1) = 1",
            "write(0, 0, 261) = 1", "judge(0) = 0", "write(0, 0, -251) = 1", "judge(0) = 0", "write(0, 0, 133) = 1",
            "judge(0) = 1", "sheet(0, 16, 1) = 1", "write(0, 0, 65541) = 1", "judge(0) = 0", "write(0, 0, 261) = 1",
            "judge(0) = 1", "sheet(0, 32, 1) = 1", "write(0, 0, 65541) = 1", "judge(0) = 1", "write(0, 0, 5) = 1",
            "judge(0) = 0", "write(0, 0, MIN) = 1", "judge(0) = 1", "write(0, 0, MAX) = 1", "judge(0) = 1");
        edge("BEYOND: no such sheet.", "write(-1, 0, 1) = BEYOND", "write(4, 0, 1) = BEYOND", "status(0) = 2");
        edge("MISSING.", "write(3, 0, 1) = MISSING", "write(3, -1, 1) = MISSING", "sheet(3, 8, 1) = 1",
            "write(3, 0, 1) = 1", "sheet(3, 0, 1) = 0", "write(3, 0, 1) = MISSING", "status(5) = 3");
        edge("BEYOND: no such number.", "sheet(0, 8, 40) = 40", "write(0, 39, 1) = 1", "write(0, 40, 1) = BEYOND",
            "write(0, -1, 1) = BEYOND", "sheet(0, 8, 2) = 2", "write(0, 1, 7) = 1", "write(0, 2, 7) = BEYOND",
            "sheet(0, 8, 0) = 0", "write(0, 0, 1) = BEYOND", "status(0) = 4");
    }

    private static void promise34() {
        promise(34);
        List<String> four = List.of("sheet(0, 8, 4) = 4", "write(0, 0, 1) = 1", "write(0, 1, 2) = 1",
            "write(0, 2, 3) = 1", "write(0, 3, 4) = 1", "sheet(1, 8, 2) = 2");
        String copy = "n numbers of a sheet from one on come to another one from one on (as they all were): n.";
        edge(copy, behind(four, "copy(0, 0, 0, 1, 3) = 3", "load(0) = 4", "listed(0) = 1", "listed(1) = 1",
            "listed(2) = 2", "listed(3) = 3"));
        edge(copy, behind(four, "copy(0, 1, 0, 0, 3) = 3", "load(0) = 4", "listed(0) = 2", "listed(1) = 3",
            "listed(2) = 4", "listed(3) = 4"));
        edge(copy, behind(four, "copy(0, 2, 1, 0, 2) = 2", "load(1) = 2", "listed(0) = 3", "listed(1) = 4",
            "copy(0, 0, 1, 0, 0) = 0", "copy(0, 3, 1, 1, 1) = 1", "load(1) = 2", "listed(0) = 3", "listed(1) = 4",
            "copy(0, 4, 1, 2, 0) = 0", "copy(0, 0, 0, 0, 4) = 4", "load(0) = 4", "listed(3) = 4"));
        edge("BEYOND: no such sheet (either).", behind(four, "copy(-1, 0, 1, 0, 1) = BEYOND",
            "copy(4, 0, 1, 0, 1) = BEYOND", "copy(0, 0, -1, 0, 1) = BEYOND", "copy(0, 0, 4, 0, 1) = BEYOND",
            "copy(3, 0, 4, 0, 1) = BEYOND", "copy(4, 0, 3, 0, 1) = BEYOND", "status(0) = 6"));
        edge("MISSING: one is.", behind(four, "copy(0, 0, 2, 0, 1) = MISSING", "copy(2, 0, 0, 0, 1) = MISSING",
            "copy(2, 0, 3, 0, 1) = MISSING", "copy(2, 0, 2, 0, 0) = MISSING", "status(5) = 4"));
        edge("KIND: they are not of as many bits.", behind(four, "sheet(2, 16, 4) = 4", "sheet(3, 32, 4) = 4",
            "copy(0, 0, 2, 0, 1) = KIND", "copy(2, 0, 0, 0, 1) = KIND", "copy(2, 0, 3, 0, 0) = KIND",
            "copy(3, 0, 0, 0, 9) = KIND", "status(2) = 4"));
        edge("BEYOND: one has not so many, or from, to or n is below 0.", behind(four, "copy(0, 0, 1, 0, 3) = BEYOND",
            "copy(1, 0, 0, 0, 3) = BEYOND", "copy(0, 3, 1, 0, 2) = BEYOND", "copy(0, 0, 1, 1, 2) = BEYOND",
            "copy(0, -1, 1, 0, 1) = BEYOND", "copy(0, 0, 1, -1, 1) = BEYOND", "copy(0, 0, 1, 0, -1) = BEYOND",
            "copy(0, 5, 1, 0, 0) = BEYOND", "copy(0, 0, 1, 3, 0) = BEYOND", "copy(0, -1, 1, 0, 0) = BEYOND",
            "copy(0, 0, 1, -1, 0) = BEYOND", "copy(0, MAX, 1, 0, 1) = BEYOND", "copy(0, 1, 1, 0, MAX) = BEYOND",
            "copy(0, MAX, 1, MAX, MAX) = BEYOND", "copy(0, MIN, 1, MIN, MIN) = BEYOND", "copy(0, 0, 1, 0, MIN) = BEYOND",
            "copy(0, 2, 1, 0, MIN) = BEYOND", "load(1) = 2", "listed(0) = 0", "listed(1) = 0", "status(0) = 17"));
    }

    private static void promises35and36() {
        promise(35);
        edge("Numbers of a sheet, from its begin on, become TIDES of THE LIST, places 0, 1, ..: how many came.",
            "tide(0, 7) = 0", "tide(1, 8) = 0", "sheet(0, 8, 0) = 0", "load(0) = 0", "listed(0) = 7", "sheet(0, 8, 1) = 1",
            "load(0) = 1", "listed(0) = 0", "listed(1) = 8", "status(-1) = 0");
        String ends = "It ends at the first that isn't 0 to 20, or for which there is no place.";
        edge(ends, "tide(1, 8) = 0", "tide(2, 9) = 0", "sheet(0, 16, 3) = 3", "write(0, 0, 20) = 1",
            "write(0, 1, 21) = 1", "write(0, 2, 4) = 1", "load(0) = 1", "listed(0) = 20", "listed(1) = 8",
            "listed(2) = 9", "write(0, 1, -1) = 1", "load(0) = 1", "write(0, 1, 0) = 1", "load(0) = 3", "listed(1) = 0",
            "listed(2) = 4", "write(0, 0, 21) = 1", "load(0) = 0", "listed(0) = 20");
        edge(ends, "sheet(0, 8, 7) = 7", "write(0, 5, 20) = 1", "write(0, 6, 99) = 1", "load(0) = 6", "listed(5) = 20",
            "write(0, 6, 3) = 1", "load(0) = 6", "sheet(0, 8, 6) = 6", "load(0) = 6", "sheet(0, 8, 5) = 5",
            "load(0) = 5", "sheet(0, 8, 40) = 40", "load(0) = 6");
        edge("BEYOND: no such sheet. MISSING.", "load(-1) = BEYOND", "load(4) = BEYOND", "load(0) = MISSING",
            "load(3) = MISSING", "sheet(3, 8, 0) = 0", "load(3) = 0", "status(0) = 2", "status(5) = 2");
        promise(36);
        String judge = "numbers of a sheet are LINES of PARCELS 0, 1, ..: 0 if so; else 1 and the place of the first "
            + "that isn't so.";
        edge(judge, "sheet(0, 8, 0) = 0", "judge(0) = 0", "sheet(0, 8, 1) = 1", "judge(0) = 1", "parcel(0, 0) = 0",
            "judge(0) = 0", "sheet(0, 8, 2) = 2", "judge(0) = 2", "parcel(0, 7) = 1", "judge(0) = 2",
            "write(0, 1, 7) = 1", "judge(0) = 0", "write(0, 0, 1) = 1", "judge(0) = 1", "write(0, 1, 1) = 1",
            "judge(0) = 1", "status(-1) = 0");
        edge(judge, behind(fullSlip(), "sheet(0, 8, 8) = 8", "judge(0) = 0", "sheet(0, 8, 9) = 9", "judge(0) = 9",
            "sheet(0, 8, 40) = 40", "judge(0) = 9", "change(7, 1, 20) = 0", "judge(0) = 8", "write(0, 7, 20) = 1",
            "judge(0) = 9", "sheet(0, 8, 7) = 7", "judge(0) = 0"));
        edge("BEYOND: no such sheet. MISSING.", "judge(-1) = BEYOND", "judge(4) = BEYOND", "judge(0) = MISSING",
            "judge(3) = MISSING", "sheet(3, 8, 0) = 0", "judge(3) = 0", "status(0) = 2", "status(5) = 2");
    }

    private static void promises37to39() {
        promise(37);
        edge("All but THE TAPE and SHEETS is kept: 1.", "image() = 1", "tide(0, 3) = 0", "set(0, 9) = 0",
            "set(1, 9) = 0", "parcel(0, 0) = 0", "hold(0, 0) = 1", "seed(9) = 1", "go(1) = 1", "feed(65, 1) = 1",
            "sheet(0, 8, 1) = 1", "undo() = 0", "listed(0) = 0", "now(1) = 0", "now(2) = 0", "now(6) = 0",
            "count(1) = 0", "count(7) = 0", "count(6) = 1", "count(5) = 1", "load(0) = 1");
        edge("All but THE TAPE and SHEETS is kept: 1.", "feed(65, 1) = 1", "sheet(0, 8, 1) = 1", "image() = 1",
            "wipe() = 1", "sheet(0, 0, 0) = 0", "undo() = 0", "count(5) = 0", "load(0) = MISSING");
        List<String> full = fullSlip();
        for (int what = 0; what <= 6; what++) {
            full.add("change(7, " + what + ", 1) = " + (what == 0 ? 5 : what == 2 ? 10 : 0));
        }
        full.addAll(List.of("hold(9, 7) = 1", "image() = 1", "hold(9, -1) = 1"));
        for (int what = 0; what <= 6; what++) {
            full.add("change(7, " + what + ", " + (what == 5 ? 0 : 2) + ") = 1");
        }
        full.add("undo() = 0");
        for (int what = 0; what <= 6; what++) {
            full.add("of(7, " + what + ") = 1");
        }
        edge("All but THE TAPE and SHEETS is kept: 1.", behind(full, "count(1) = 8", "as(9, 1) = 7"));
        promise(38);
        edge("It becomes what was kept latest (which stays): DAY.", "go(2) = 0", "image() = 1", "go(3) = 0",
            "undo() = 2", "go(9) = 0", "undo() = 2", "undo() = 2", "go(1) = 0", "image() = 1", "go(60) = 0",
            "undo() = 3", "status(-1) = 0");
        edge("NONE: nothing is kept.", "undo() = NONE", "image() = 1", "undo() = 0", "tear() = 1", "undo() = NONE",
            "status(3) = 2");
        promise(39);
        edge("Nothing is kept: 1 if something was, else 0.", "tear() = 0", "image() = 1", "image() = 1", "tear() = 1",
            "tear() = 0", "undo() = NONE", "image() = 1", "undo() = 0", "tear() = 1");
    }

    private static void promises40and41() {
        promise(40);
        edge("BEYOND: another what.", "count(-1) = BEYOND", "count(8) = BEYOND", "count(0) = 0", "count(7) = 0",
            "status(0) = 2");
        List<String> rows = fullSlip();
        for (int spot = 0; spot < 10; spot++) {
            rows.add("hold(" + spot + ", 7) = 1");
        }
        edge("0 DAY, 1 PARCELS, 2 AMBER, 3 LATE, 4 how many are taken, 5 bytes of THE TAPE, 6 z, 7 SPOTS that hold "
            + "something.", behind(rows, "count(7) = 10", "count(1) = 8", "count(4) = 0", "tide(0, 1) = 0", "go(1) = 255",
            "count(4) = 8", "count(0) = 1", "count(2) = 8", "set(0, 9999) = 0", "count(3) = 9999", "hold(0, -1) = 1",
            "count(7) = 9"));
        promise(41);
        edge("How many acts answered a finding ever (undo() takes none back)", "image() = 1", "now(8) = BEYOND",
            "undo() = 0", "status(0) = 1", "status(-1) = 1", "image() = 1", "tear() = 1", "undo() = NONE",
            "status(-1) = 2");
        edge("which -1: all, 0 to 6: BEYOND to SIZE.", "status(-1) = 0", "status(0) = 0", "status(6) = 0",
            "sheet(0, 8, -1) = SIZE", "status(6) = 1", "status(5) = 0", "load(0) = MISSING", "status(5) = 1",
            "listed(6) = BEYOND", "status(0) = 1", "status(-1) = 3");
        edge("BEYOND (counted from then on): another one.", "status(-2) = BEYOND", "status(-1) = 1",
            "status(7) = BEYOND", "status(0) = 2", "status(-1) = 2");
    }

    // ---- arguments that are as far off as can be

    private static void extremes() {
        List<String> base = new ArrayList<>(fullSlip());
        base.addAll(List.of("sheet(0, 8, 2) = 2", "sheet(1, 8, 2) = 2", "hold(0, 0) = 1"));
        String[] calls = {"tide(?, 1)", "tide(1, ?)", "listed(?)", "set(?, 1)", "set(0, ?)", "set(1, ?)", "parcel(?, 1)",
            "parcel(1, ?)", "of(?, 1)", "of(1, ?)", "change(?, 1, 1)", "change(1, ?, 1)", "change(1, 0, ?)",
            "change(1, 1, ?)", "change(1, 2, ?)", "change(1, 3, ?)", "change(1, 4, ?)", "change(1, 5, ?)",
            "change(1, 6, ?)", "signs(?, 1)", "signs(1, ?)", "onLine(?)", "go(?)", "now(?)", "ahead(?, 1, 1)",
            "ahead(1, ?, 1)", "ahead(1, 1, ?)", "sea(?, 1)", "sea(1, ?)", "when(?, 1)", "when(1, ?)", "paid(?)",
            "lineFor(?, 1)", "lineFor(1, ?)", "weightFor(?, 1)", "weightFor(1, ?)", "kindFor(?, 1)", "kindFor(1, ?)",
            "stormFor(?, 1)", "stormFor(1, ?)", "holdBack(?)", "fits(?, 1)", "fits(0, ?)", "kinds(?, 1)", "kinds(0, ?)",
            "swell(?)", "odds(?, 1, 0)", "odds(1, ?, 0)", "odds(1, 1, ?)", "feed(65, ?)", "hold(?, 1)", "hold(1, ?)",
            "as(?, 1)", "as(0, ?)", "sheet(?, 8, 1)", "sheet(0, ?, 1)", "write(?, 0, 1)", "write(0, ?, 1)",
            "copy(?, 0, 1, 0, 1)", "copy(0, ?, 1, 0, 1)", "copy(0, 0, ?, 0, 1)", "copy(0, 0, 1, ?, 1)",
            "copy(0, 0, 1, 0, ?)", "load(?)", "judge(?)", "count(?)", "status(?)"};
        for (String call : calls) {
            Runs.run("arguments as far off as can be: " + call, behind(base, call.replace("?", "MIN") + " = BEYOND",
                call.replace("?", "MAX") + " = BEYOND", "status(0) = 2", "status(-1) = 2"));
        }
        Runs.run("arguments as far off as can be: sheet", behind(base, "sheet(0, 8, MIN) = SIZE",
            "sheet(0, 8, MAX) = BEYOND"));
        Runs.run("arguments as far off as can be: v may be any int", behind(base, "seed(MIN) = 1", "seed(MAX) = MIN",
            "feed(MIN, 4) = 4", "feed(MAX, 4) = 8", "write(0, 0, MIN) = 1", "write(0, 0, MAX) = 1", "status(-1) = 0"));
    }
}
