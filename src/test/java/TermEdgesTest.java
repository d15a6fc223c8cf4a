import java.io.IOException;
import java.util.ArrayList;
import java.util.List;

/** Each sentence of the document's head and terms that names a boundary case, by a run of its own. */
public final class TermEdgesTest extends Edges {
    public static void main(String[] args) throws IOException {
        cutDocument();
        findings();
        order();
        coast();
        parcelsAtFirst();
        signing();
        moving();
        lasting();
        paying();
        aDay();
        aDayAtItsMost();
        draws();
        tokens();
        items();
        faults();
        spotsAndSheets();
        Runs.end();
    }

    private static void findings() {
        promise(0);
        edge("An object is used for at most 512 calls after it has been made",
            behind(times(510, "go(60) = 0"), "now(0) = 30600", "status(-1) = 0"));
        edge("An object is used for at most 512 calls after it has been made",
            behind(times(511, "listed(6) = BEYOND"), "status(-1) = 511"));
        edge("An object is used for at most 512 calls after it has been made",
            behind(times(256, "image() = 1", "undo() = 0")));
        edge("An object is used for at most 512 calls after it has been made",
            behind(times(170, "feed(2109728, 3) = 3", "wipe() = 3", "text() = -1"), "count(5) = 0"));
        edge("LOW is -1000001; LOW BEYOND", "listed(6) = -1000001", "status(0) = 1", "status(-1) = 1");
        edge("LOW - 1 FULL", behind(fullSlip(), "parcel(5, 0) = -1000002", "status(1) = 1"));
        edge("LOW - 2 KIND", "parcel(0, 0) = 0", "hold(0, 0) = 1", "as(0, 1) = -1000003", "status(2) = 1");
        edge("LOW - 3 NONE", "undo() = -1000004", "status(3) = 1");
        edge("LOW - 5 MISSING", "load(0) = -1000006", "status(5) = 1");
        edge("LOW - 6 SIZE", "sheet(0, 8, -1) = -1000007", "status(6) = 1");
        edge("(in longs, too)", "odds(0, 0, 0) = -1000001", "status(0) = 1");
        edge("What seed() and count(6) tell, z, may be any int: that is no finding.",
            "seed(-1000001) = 1", "count(6) = -1000001", "seed(-1000004) = -1000001", "seed(MIN) = -1000004",
            "count(6) = MIN", "seed(MAX) = MIN", "count(6) = MAX", "seed(-1) = MAX", "status(-1) = 0");
        edge("Quotients are cut.", "parcel(0, 0) = 0", "change(0, 2, 19) = 10", "of(0, 9) = 1", "change(0, 2, 20) = 19",
            "of(0, 9) = 2");
        edge("of several that would do the least number counts, where nothing else is told",
            "tide(0, 6) = 0", "parcel(0, 6) = 0", "change(0, 2, 50) = 10", "of(0, 9) = 5", "kindFor(0, 1) = 0",
            "change(0, 2, 49) = 50", "kindFor(0, 1) = 6", "kindFor(0, 0) = 0");
        edge("one that answers a finding changes nothing but status()",
            "tide(0, 21) = BEYOND", "listed(0) = 0", "set(0, 10000) = BEYOND", "now(2) = 0", "set(1, 10) = BEYOND",
            "now(6) = 0", "parcel(0, 21) = BEYOND", "count(1) = 0", "go(61) = BEYOND", "now(0) = 0",
            "swell(21) = BEYOND", "count(6) = 1", "feed(65, 5) = BEYOND", "count(5) = 0", "sheet(0, 8, 2) = 2",
            "sheet(0, 16, 41) = BEYOND", "sheet(1, 8, 1) = 1", "copy(0, 0, 1, 0, 1) = 1", "status(-1) = 8");
    }

    private static void order() {
        promise(0);
        String sentence = "Each act tells its findings in the order in which they are asked (that of its words)";
        edge(sentence, behind(fullSlip(), "parcel(7, 0) = BEYOND", "parcel(0, 21) = BEYOND", "parcel(-1, -1) = BEYOND",
            "parcel(0, 0) = FULL"));
        edge(sentence, "fits(4, 0) = BEYOND", "fits(3, 0) = MISSING", "fits(3, 8) = MISSING", "sheet(3, 8, 0) = 0",
            "fits(3, 0) = BEYOND");
        edge(sentence, "kinds(4, 0) = BEYOND", "kinds(3, 0) = MISSING", "kinds(3, 8) = MISSING", "sheet(3, 8, 0) = 0",
            "kinds(3, 0) = BEYOND");
        edge(sentence, behind(fed(30), "feed(0, 0) = BEYOND", "feed(0, 5) = BEYOND",
            "feed(0, 1) = FULL"));
        edge(sentence, "as(10, 0) = BEYOND", "as(0, 7) = BEYOND", "as(0, 1) = MISSING", "parcel(0, 0) = 0",
            "hold(0, 0) = 1", "as(0, 1) = KIND", "as(0, 7) = BEYOND");
        edge(sentence, "sheet(4, 8, -1) = BEYOND", "sheet(0, 9, -1) = BEYOND", "sheet(4, 8, 41) = BEYOND",
            "sheet(0, 8, -1) = SIZE", "sheet(0, 8, 41) = BEYOND", "status(0) = 4", "status(6) = 1");
        edge(sentence, "write(4, 40, 0) = BEYOND", "write(0, 40, 0) = MISSING", "sheet(0, 8, 40) = 40",
            "write(0, 40, 0) = BEYOND", "status(0) = 2", "status(5) = 1");
        edge(sentence, "copy(4, -1, 0, 0, 0) = BEYOND", "copy(0, -1, 4, 0, 0) = BEYOND", "copy(0, -1, 1, 0, 0) = MISSING",
            "sheet(0, 8, 2) = 2", "copy(0, -1, 1, 0, 0) = MISSING", "copy(1, -1, 0, 0, 0) = MISSING",
            "sheet(1, 16, 2) = 2", "copy(0, -1, 1, 0, 0) = KIND", "copy(0, 0, 1, 9, 9) = KIND", "sheet(1, 8, 2) = 2",
            "copy(0, -1, 1, 0, 0) = BEYOND");
        edge(sentence, "load(4) = BEYOND", "load(3) = MISSING", "judge(4) = BEYOND", "judge(3) = MISSING");
        edgeOn(lateDays(), sentence, "go(61) = BEYOND", "go(40) = STATE", "swell(21) = BEYOND", "go(39) = 0",
            "swell(20) = STATE", "swell(0) = BEYOND");
    }

    private static void coast() {
        promise(0);
        edge("LINES 0 to 20 (0 the lowest).", "parcel(0, 0) = 0", "parcel(0, 20) = 1", "parcel(0, -1) = BEYOND",
            "parcel(0, 21) = BEYOND", "onLine(0) = 0b1", "onLine(20) = 0b10", "onLine(-1) = BEYOND",
            "onLine(21) = BEYOND", "signs(0, 0) = 1", "signs(1, 19) = 0");
        edge("THE LIST: six TIDES (0 to 20 each; 0 at first).", "listed(0) = 0", "listed(1) = 0", "listed(2) = 0",
            "listed(3) = 0", "listed(4) = 0", "listed(5) = 0", "tide(0, 20) = 0", "tide(5, 20) = 0", "tide(5, 0) = 20",
            "tide(6, 0) = BEYOND", "tide(-1, 0) = BEYOND", "tide(0, 21) = BEYOND", "tide(0, -1) = BEYOND");
        edge("LATE (0 to 9999; 0 at first).", "set(0, 9999) = 0", "set(0, 10000) = BEYOND", "set(0, -1) = BEYOND",
            "set(0, 0) = 9999");
        edge("STORM (0 to 9; 0 at first).", "set(1, 9) = 0", "set(1, 10) = BEYOND", "set(1, -1) = BEYOND",
            "set(1, 0) = 9");
        List<String> six = List.of("tide(0, 10) = 0", "tide(1, 11) = 0", "tide(2, 12) = 0", "tide(3, 13) = 0",
            "tide(4, 14) = 0", "tide(5, 15) = 0");
        String tide = "THE TIDE of a DAY: what THE LIST tells for what DAY and LATE together leave by 6, and STORM.";
        edge(tide, behind(six, "now(6) = 10", "go(5) = 0", "now(6) = 15", "go(1) = 0", "now(6) = 10", "go(6) = 0",
            "now(6) = 10", "go(1) = 0", "now(6) = 11"));
        edge(tide, behind(six, "set(0, 5) = 0", "now(6) = 15", "set(0, 6) = 5", "now(6) = 10", "set(0, 9999) = 6",
            "now(6) = 13", "set(0, 3) = 9999", "go(2) = 0", "now(6) = 15", "go(1) = 0", "now(6) = 10"));
        edge(tide, "tide(0, 20) = 0", "set(1, 9) = 0", "now(6) = 29", "tide(0, 0) = 20", "now(6) = 9",
            "set(1, 0) = 9", "now(6) = 0");
        edge("AMBER (0 to 99999; 0 at first).", "now(1) = 0", "paid(0) = 0", "paid(99999) = NONE",
            "paid(100000) = BEYOND", "paid(-1) = BEYOND");
        edge("PARCELS 0, 1, .. (at most 8)", behind(fullSlip(), "count(1) = 8", "parcel(5, 0) = FULL", "count(1) = 8",
            "of(7, 0) = 5", "of(8, 0) = BEYOND", "tape \"socks\"", "text() = -1", "count(1) = 8"));
    }

    private static void parcelsAtFirst() {
        promise(0);
        edge("each on a LINE (0 at first)", "tape \"parcel\"", "text() = 1", "of(0, 1) = 0", "change(0, 1, 20) = 0",
            "change(0, 1, 21) = BEYOND", "change(0, 1, -1) = BEYOND", "change(0, 1, 0) = 20");
        edge("with a WEIGHT (1 to 99; 10 at first)", "parcel(0, 0) = 0", "change(0, 2, 99) = 10",
            "change(0, 2, 100) = BEYOND", "change(0, 2, 0) = BEYOND", "change(0, 2, 1) = 99", "of(0, 2) = 1");
        edge("WAITS (DAYS; 0 to 9999; 0 at first)", "parcel(0, 0) = 0", "change(0, 3, 9999) = 0",
            "change(0, 3, 10000) = BEYOND", "change(0, 3, -1) = BEYOND", "change(0, 3, 0) = 9999");
        edge("a STATE (0 lies, 1 taken, 2 spoilt; 0 at first)", "parcel(0, 0) = 0", "now(3) = 1",
            "change(0, 4, 1) = 0", "now(4) = 1", "change(0, 4, 2) = 1", "now(5) = 1", "change(0, 4, 3) = BEYOND",
            "change(0, 4, -1) = BEYOND", "change(0, 4, 0) = 2", "now(3) = 1");
        edge("HELD back or not (1, 0; 0 at first)", "parcel(0, 0) = 0", "change(0, 5, 1) = 0",
            "change(0, 5, 2) = BEYOND", "change(0, 5, -1) = BEYOND", "change(0, 5, 0) = 1");
        edge("TURNED (how often it was turned over; 0 to 9999; 0 at first)", "image() = 1", "parcel(4, 9) = 0",
            "change(0, 2, 7) = 10", "change(0, 3, 2) = 0", "change(0, 4, 2) = 0", "change(0, 5, 1) = 0",
            "change(0, 6, 3) = 0", "ahead(0, 1, 0) = 9", "undo() = 0", "tape \"letter\"", "text() = 1", "of(0, 0) = 1", "of(0, 1) = 0",
            "of(0, 2) = 10", "of(0, 3) = 0", "of(0, 4) = 0", "of(0, 5) = 0", "of(0, 6) = 0");
        edge("TURNED (how often it was turned over; 0 to 9999; 0 at first)", "parcel(0, 0) = 0",
            "change(0, 6, 9999) = 0", "change(0, 6, 10000) = BEYOND", "change(0, 6, -1) = BEYOND",
            "change(0, 6, 0) = 9999");
    }

    private static void signing() {
        promise(0);
        edge("PARCEL: if t is its LINE or more.", "parcel(0, 7) = 0", "signs(0, 6) = 0", "signs(0, 7) = 1",
            "signs(0, 8) = 1", "change(0, 2, 1) = 10", "signs(0, 7) = 1", "change(0, 2, 99) = 1", "signs(0, 7) = 1");
        edge("PARCEL: if t is its LINE or more.", "parcel(0, 0) = 0", "signs(0, 0) = 1", "go(1) = 1");
        edge("LETTER: as a PARCEL, but not, if WEIGHT is below 5.", "parcel(1, 7) = 0", "signs(0, 6) = 0",
            "signs(0, 7) = 1", "change(0, 2, 5) = 10", "signs(0, 6) = 0", "signs(0, 7) = 1", "change(0, 2, 4) = 5",
            "signs(0, 7) = 0", "signs(0, 29) = 0");
        edge("REGISTERED: as a LETTER, but not, if DAY is odd.", "parcel(6, 7) = 0", "signs(0, 6) = 0",
            "signs(0, 7) = 1", "change(0, 2, 4) = 10", "signs(0, 29) = 0", "change(0, 2, 5) = 4", "go(1) = 0",
            "signs(0, 7) = 0", "signs(0, 29) = 0", "go(1) = 0", "signs(0, 7) = 1", "go(1) = 0", "signs(0, 29) = 0");
        edge("CRATE: if t is its LINE and a twentieth (cut) of its WEIGHT together or more.", "parcel(2, 7) = 0",
            "change(0, 2, 19) = 10", "signs(0, 6) = 0", "signs(0, 7) = 1", "change(0, 2, 20) = 19", "signs(0, 7) = 0",
            "signs(0, 8) = 1", "change(0, 2, 39) = 20", "signs(0, 8) = 1", "change(0, 2, 99) = 39", "signs(0, 10) = 0",
            "signs(0, 11) = 1", "change(0, 1, 20) = 7", "signs(0, 23) = 0", "signs(0, 24) = 1");
        edge("CLOCK: as a CRATE.", "parcel(3, 7) = 0", "change(0, 2, 19) = 10", "signs(0, 6) = 0", "signs(0, 7) = 1",
            "change(0, 2, 20) = 19", "signs(0, 7) = 0", "signs(0, 8) = 1",
            "signs(0, 29) = 1");
        edge("BRIDE: as a CLOCK, but not, unless TURNED is 7 or more.", "parcel(4, 7) = 0", "signs(0, 29) = 0",
            "change(0, 6, 6) = 0", "signs(0, 29) = 0", "change(0, 6, 7) = 6", "signs(0, 7) = 1", "signs(0, 6) = 0",
            "change(0, 6, 8) = 7", "signs(0, 7) = 1", "change(0, 2, 20) = 10", "signs(0, 7) = 0", "signs(0, 8) = 1");
        edge("SOCKS: if t is above 0.", "parcel(5, 20) = 0", "signs(0, 0) = 0", "signs(0, 1) = 1",
            "change(0, 1, 0) = 20", "signs(0, 0) = 0", "signs(0, 1) = 1");
    }

    private static void moving() {
        promise(0);
        String touched = "(Touched: t is its LINE less 3 or more, and t is above 0.)";
        edge(touched, "tide(0, 6) = 0", "parcel(0, 9) = 0", "parcel(0, 10) = 1", "go(1) = 0", "of(0, 6) = 1",
            "of(1, 6) = 0", "of(0, 1) = 11", "of(1, 1) = 10");
        edge(touched, "parcel(0, 3) = 0", "parcel(0, 1) = 1", "parcel(5, 0) = 2", "go(1) = 0", "of(0, 6) = 0",
            "of(1, 6) = 0", "of(2, 6) = 0", "tide(1, 1) = 0", "change(0, 1, 4) = 3", "go(1) = 0b110", "of(0, 6) = 1");
        edge("MOVES (LINES up when it is refused, but touched): PARCEL: 2.", "tide(0, 6) = 0", "parcel(0, 7) = 0",
            "of(0, 7) = 2", "go(1) = 0", "of(0, 1) = 9");
        edge("LETTER: half (cut) of a PARCEL.", "tide(0, 6) = 0", "parcel(1, 7) = 0", "of(0, 7) = 1", "go(1) = 0",
            "of(0, 1) = 8");
        edge("REGISTERED: as a LETTER.", "tide(0, 6) = 0", "parcel(6, 7) = 0", "of(0, 7) = 1", "go(1) = 0",
            "of(0, 1) = 8");
        edge("CRATE: as a PARCEL, less 1.", "tide(0, 6) = 0", "parcel(2, 7) = 0", "of(0, 7) = 1", "go(1) = 0",
            "of(0, 1) = 8");
        edge("CLOCK: as a CRATE.", "tide(0, 6) = 0", "parcel(3, 7) = 0", "of(0, 7) = 1", "go(1) = 0", "of(0, 1) = 8");
        edge("BRIDE: 0.", "tide(0, 6) = 0", "parcel(4, 7) = 0", "of(0, 7) = 0", "go(1) = 0", "of(0, 1) = 7",
            "of(0, 6) = 1");
        edge("SOCKS: 5.", "parcel(5, 7) = 0", "of(0, 7) = 5", "of(0, 6) = 0");
    }

    /** It isn't spoilt behind so many DAYS, but one DAY further on. */
    private static void lastsFor(String sentence, int kind, int days) {
        edge(sentence, "parcel(" + kind + ", 20) = 0", "of(0, 8) = " + days, "when(0, 2) = " + (days + 1),
            "ahead(0, 4, " + days + ") = 0", "ahead(0, 3, " + days + ") = " + days, "ahead(0, 4, " + (days + 1) + ") = 2",
            "ahead(0, 3, " + (days + 2) + ") = " + (days + 1));
    }

    private static void lasting() {
        promise(0);
        lastsFor("LASTS (DAYS that it may WAIT): PARCEL: 12.", 0, 12);
        lastsFor("LETTER: thrice a PARCEL.", 1, 36);
        lastsFor("REGISTERED: as a LETTER, and 30.", 6, 66);
        lastsFor("CRATE: twice a PARCEL.", 2, 24);
        lastsFor("CLOCK: as a CRATE.", 3, 24);
        lastsFor("SOCKS: as a PARCEL, and 3.", 5, 15);
        edge("BRIDE: 9999.", "parcel(4, 20) = 0", "of(0, 8) = 9999", "change(0, 3, 9998) = 0", "go(1) = 0",
            "of(0, 3) = 9999", "of(0, 4) = 0", "go(1) = 0", "of(0, 3) = 9999", "of(0, 4) = 0", "when(0, 2) = NONE");
    }

    /** What a kind pays with WEIGHTS 1, 9, 10, 19, 20, 99. */
    private static void paysWith(String sentence, int kind, int... amber) {
        int[] weights = {1, 9, 10, 19, 20, 99};
        List<String> rows = new ArrayList<>();
        rows.add("parcel(" + kind + ", 0) = 0");
        int was = 10;
        for (int i = 0; i < weights.length; i++) {
            rows.add("change(0, 2, " + weights[i] + ") = " + was);
            rows.add("of(0, 9) = " + amber[i]);
            was = weights[i];
        }
        edge(sentence, rows.toArray(new String[0]));
    }

    private static void paying() {
        promise(0);
        paysWith("PAYS (AMBER when taken): PARCEL: a tenth (cut) of WEIGHT.", 0, 0, 0, 1, 1, 2, 9);
        paysWith("LETTER: 0.", 1, 0, 0, 0, 0, 0, 0);
        paysWith("REGISTERED: as a LETTER, and 5.", 6, 5, 5, 5, 5, 5, 5);
        paysWith("CRATE: twice a PARCEL.", 2, 0, 0, 2, 2, 4, 18);
        paysWith("CLOCK: as a CRATE, and 10.", 3, 10, 10, 12, 12, 14, 28);
        paysWith("BRIDE: thrice a CLOCK.", 4, 30, 30, 36, 36, 42, 84);
        paysWith("SOCKS: 1.", 5, 1, 1, 1, 1, 1, 1);
        edge("DELAYS (LATE more when taken): PARCEL, LETTER, REGISTERED, CRATE, SOCKS: 0. CLOCK: 1.",
            "parcel(0, 0) = 0", "parcel(1, 0) = 1", "parcel(6, 0) = 2", "parcel(2, 0) = 3", "parcel(5, 0) = 4",
            "tide(0, 1) = 0", "go(1) = 0b11111", "now(2) = 0", "parcel(3, 0) = 5", "of(5, 10) = 1", "go(1) = 0b111111",
            "now(2) = 1");
        edge("BRIDE: as a CLOCK, and 1.", "parcel(4, 0) = 0", "of(0, 10) = 2", "change(0, 6, 7) = 0", "go(1) = 1",
            "now(2) = 2");
    }

    private static void aDay() {
        promise(0);
        edge("t is THE TIDE of it as it begins.", "tide(0, 6) = 0", "parcel(3, 6) = 0", "parcel(0, 6) = 1",
            "parcel(6, 6) = 2", "go(1) = 0b111", "now(0) = 1", "now(2) = 1");
        edge("t is THE TIDE of it as it begins.", "tide(1, 6) = 0", "parcel(3, 0) = 0", "parcel(0, 6) = 1",
            "go(1) = 0b1", "of(1, 6) = 0", "go(1) = 0b1", "of(1, 6) = 0");
        edge("PARCELS by numbers that lie: one that isn't HELD back and is SIGNED for is taken",
            "tide(0, 6) = 0", "parcel(0, 6) = 0", "parcel(0, 6) = 1", "parcel(0, 6) = 2", "parcel(0, 7) = 3",
            "change(0, 5, 1) = 0", "change(1, 4, 2) = 0", "go(1) = 0b100", "of(0, 4) = 0", "of(1, 4) = 2",
            "of(3, 4) = 0", "now(1) = 1");
        edge("One that is neither HELD back nor SIGNED for, but touched",
            "tide(0, 6) = 0", "parcel(0, 7) = 0", "parcel(0, 6) = 1", "parcel(0, 7) = 2", "parcel(0, 7) = 3",
            "parcel(0, 7) = 4", "change(0, 5, 1) = 0", "change(2, 4, 2) = 0", "change(3, 4, 1) = 0", "go(1) = 0b1010",
            "of(0, 6) = 0", "of(0, 1) = 7", "of(1, 6) = 0", "of(1, 1) = 6", "of(2, 6) = 0", "of(2, 1) = 7",
            "of(3, 6) = 0", "of(3, 1) = 7", "of(4, 6) = 1", "of(4, 1) = 9");
        edge("TURNED is 1 more (9999 at most)", "tide(0, 6) = 0", "tide(1, 6) = 0", "parcel(4, 9) = 0",
            "parcel(2, 8) = 1", "change(1, 6, 9998) = 0", "go(1) = 0", "of(1, 6) = 9999", "of(1, 1) = 9",
            "go(1) = 0", "of(1, 6) = 9999", "of(1, 1) = 10", "of(0, 6) = 2");
        edge("it is as many LINES higher as it MOVES (20 at most).", "tide(0, 18) = 0", "tide(1, 19) = 0",
            "parcel(0, 18) = 0", "change(0, 5, 1) = 0", "parcel(0, 19) = 1", "parcel(0, 20) = 2", "parcel(1, 19) = 3",
            "parcel(1, 20) = 4", "go(1) = 0", "of(0, 1) = 18", "of(1, 1) = 20", "of(2, 1) = 20", "of(3, 1) = 20",
            "of(4, 1) = 20", "of(4, 6) = 1", "go(1) = 0", "of(1, 1) = 20", "of(3, 1) = 20", "of(4, 6) = 2");
        edge("Of all that lie yet WAITS is 1 more (9999 at most)", "tide(0, 6) = 0", "parcel(4, 20) = 0",
            "parcel(4, 20) = 1", "parcel(0, 6) = 2", "parcel(0, 20) = 3", "parcel(0, 20) = 4",
            "change(0, 3, 9998) = 0", "change(1, 3, 9999) = 0", "change(3, 5, 1) = 0", "change(4, 4, 2) = 0",
            "go(1) = 0b100", "of(0, 3) = 9999", "of(1, 3) = 9999", "of(2, 3) = 0", "of(3, 3) = 1", "of(4, 3) = 0",
            "go(1) = 0b100", "of(0, 3) = 9999");
        edge("one that WAITS more than it LASTS then is spoilt.", "parcel(0, 20) = 0", "parcel(0, 20) = 1",
            "parcel(0, 20) = 2", "change(0, 3, 11) = 0", "change(1, 3, 12) = 0", "change(2, 3, 9999) = 0", "now(5) = 0",
            "go(1) = 0", "now(5) = 0b110", "of(0, 3) = 12", "of(1, 3) = 13", "of(2, 3) = 9999", "go(1) = 0",
            "now(5) = 0b111", "of(1, 3) = 13");
        edge("one that WAITS more than it LASTS then is spoilt.", "tide(0, 6) = 0", "parcel(0, 6) = 0",
            "parcel(0, 7) = 1", "change(0, 3, 12) = 0", "change(1, 3, 12) = 0", "go(1) = 0b1", "now(5) = 0b10",
            "of(0, 3) = 12", "of(1, 1) = 9", "of(1, 6) = 1");
        edge("LATE what it DELAYS more (9999 at most).", "set(0, 9996) = 0", "tide(0, 9) = 0", "parcel(4, 9) = 0",
            "parcel(3, 9) = 1", "parcel(4, 9) = 2", "change(0, 6, 7) = 0", "change(2, 6, 7) = 0", "go(1) = 0b111",
            "now(2) = 9999");
        edge("LATE what it DELAYS more (9999 at most).", "set(0, 9999) = 0", "tide(3, 9) = 0", "parcel(3, 9) = 0",
            "go(1) = 1", "now(2) = 9999", "sea(2, 9) = 9999");
    }

    /** No 512 calls come so far; what the document tells is so all the same. */
    private static void aDayAtItsMost() {
        promise(0);
        edge("DAY is one more (99999 at most).", "go(1) = 0", "now(0) = 1", "go(59) = 0", "now(0) = 60");
        edgeOn(lateDays(), "DAY is one more (99999 at most).", "tide(3, 7) = 0", "tide(4, 8) = 0", "go(38) = 0",
            "now(0) = 99998", "sea(6, 0) = 0", "sea(6, 1) = 7", "sea(6, 2) = 7", "sea(6, 100) = 7", "go(1) = 0",
            "now(0) = 99999", "now(6) = 7");
        edgeOn(lateDays(), "LOW - 4 STATE", "go(40) = -1000005", "status(4) = 1", "status(-1) = 1");
        edge("AMBER is what it PAYS more (99999 at most)", "tide(0, 20) = 0", "parcel(2, 0) = 0", "parcel(0, 0) = 1",
            "change(0, 2, 99) = 10", "go(1) = 0b11", "now(1) = 19");
        SeaParcels rich = new SeaParcels();
        for (int i = 0; i < 8; i++) {
            rich.tide(i, 20);
            rich.parcel(4, 1);
            rich.change(i, 2, 99);
            rich.change(i, 6, 7);
        }
        for (int round = 0; round < 148; round++) {
            for (int i = 0; i < 8; i++) {
                rich.change(i, 4, 0);
            }
            rich.go(1);
        }
        edgeOn(rich, "AMBER is what it PAYS more (99999 at most)", "now(1) = 99456", "change(0, 4, 0) = 1",
            "go(1) = 255", "now(1) = 99540", "change(0, 4, 0) = 1", "change(1, 4, 0) = 1", "change(2, 4, 0) = 1",
            "change(3, 4, 0) = 1", "change(4, 4, 0) = 1", "paid(99999) = NONE", "change(5, 4, 0) = 1", "sea(1, 1) = 99999",
            "paid(99999) = 1", "go(1) = 255", "now(1) = 99999", "change(0, 4, 0) = 1", "go(1) = 255", "now(1) = 99999");
    }

    private static void draws() {
        promise(0);
        String sentence = "each makes it z * 1103515245 + 12345 (an int), and gives z >>> 8.";
        edge("DRAWS: z is told (1 at first)", "count(6) = 1", "seed(1) = 1");
        // 1 -> 1103527590 -> -1770082073: the second draw is told without its sign.
        edge(sentence, "swell(1) = 0", "count(6) = -1770082073", "listed(0) = 0", "listed(" + (1103527590 >> 8) % 6 + ") = "
            + (int) (((-1770082073L & 0xffffffffL) >> 8) % 21));
        // -1 -> -1103502900 -> -1151288955: both are below 0.
        int first = -1103515245 + 12345;
        int second = (int) (first * 1103515245L + 12345);
        edge(sentence, "seed(-1) = 1", "swell(1) = 0", "count(6) = " + second,
            "listed(" + ((first & 0xffffffffL) >> 8) % 6 + ") = " + ((second & 0xffffffffL) >> 8) % 21);
        edge(sentence, "seed(MAX) = 1", "swell(1) = 0", "count(6) = "
            + (int) ((int) (Integer.MAX_VALUE * 1103515245L + 12345) * 1103515245L + 12345));
    }

    private static void tokens() {
        promise(0);
        edge("A TEXT is read from THE TAPE (bytes, at most 120).",
            behind(fed(29), "count(5) = 116", "feed(538976288, 4) = 120",
                "feed(32, 1) = FULL", "count(5) = 120", "text() = -121", "count(5) = 0",
                "tape \"storm 4\"", "text() = 1", "now(6) = 4"));
        read("TOKENS, each as long as can be", "tide 0 12;storm9", 2, "listed(0) = 12", "now(6) = 21");
        fault("TOKENS, each as long as can be", "tide 012", 5);
        fault("TOKENS, each as long as can be", "clock on1 2", 10);
        fault("TOKENS, each as long as can be", "clockon 1", 0);
        fault("TOKENS, each as long as can be", "clock onweighs 1", 6);
        fault("TOKENS, each as long as can be", "clock heldheld", 6);
        fault("WORDS (letters a to z)", "Crate", 0);
        fault("WORDS (letters a to z)", "craTe", 0);
        fault("WORDS (letters a to z)", "socks`", 5);
        fault("WORDS (letters a to z)", "socks{", 5);
        fault("WORDS (letters a to z)", "socks_held", 5);
        fault("WORDS (letters a to z)", "socksz", 0);
        fault("WORDS (letters a to z)", "asocks", 0);
        read("NUMBERS (digits, 999 at most)", "socks waits 999", 1, "of(0, 3) = 999");
        read("NUMBERS (digits, 999 at most)", "socks waits 000000999;tide 0 007", 2, "of(0, 3) = 999", "listed(0) = 7");
        fault("NUMBERS (digits, 999 at most)", "socks waits 1000", 12);
        fault("NUMBERS (digits, 999 at most)", "socks waits 9990", 12);
        fault("NUMBERS (digits, 999 at most)", "socks waits 4294967296", 12);
        fault("NUMBERS (digits, 999 at most)", "socks waits 18446744073709551616", 12);
        fault("NUMBERS (digits, 999 at most)", "socks on /", 9);
        fault("NUMBERS (digits, 999 at most)", "socks on :", 9);
        fault("NUMBERS (digits, 999 at most)", "socks on -1", 9);
        fault("NUMBERS (digits, 999 at most)", "socks on +1", 9);
        fault("NUMBERS (digits, 999 at most)", "socks on 1.5", 10);
        fault("SIGN ;", "socks:socks", 5);
        fault("SIGN ;", "socks<socks", 5);
        fault("SIGN ;", "socks,socks", 5);
        read("blanks may stand between", "  socks   on  3   held  ;  tide 0   4 ;storm 2  ", 3, "of(0, 1) = 3",
            "of(0, 5) = 1", "listed(0) = 4");
        read("blanks may stand between", "socks on3weighs4waits5held;tide0 4;storm2", 3, "of(0, 1) = 3", "of(0, 2) = 4",
            "of(0, 3) = 5", "of(0, 5) = 1", "listed(0) = 4");
        fault("blanks may stand between", "so cks", 0);
        fault("blanks may stand between", "storm 3\t", 7);
        fault("blanks may stand between", "storm 3\n", 7);
        fault("blanks may stand between", "storm 3\u00a0", 7);
    }

    private static void items() {
        promise(0);
        String text = "TEXT: ITEM { ; ITEM }.";
        read(text, "storm 3", 1, "now(6) = 3");
        read(text, "storm 3;storm 4", 2, "now(6) = 4");
        read(text, "parcel;letter;crate;clock;bride;socks;registered;crate", 8, "of(0, 0) = 0", "of(1, 0) = 1",
            "of(2, 0) = 2", "of(3, 0) = 3", "of(4, 0) = 4", "of(5, 0) = 5", "of(6, 0) = 6", "of(7, 0) = 2");
        fault(text, "", 0);
        fault(text, "     ", 5);
        fault(text, ";", 0);
        fault(text, ";storm 3", 0);
        fault(text, "storm 3;", 8);
        fault(text, "storm 3;;storm 3", 8);
        fault(text, "storm 3 storm 3", 8);
        String line = "perhaps on and a NUMBER (a LINE; 0 without)";
        read(line, "letter on 0;letter on 20;letter", 3, "of(0, 1) = 0", "of(1, 1) = 20", "of(2, 1) = 0");
        fault(line, "letter on 21", 10);
        fault(line, "letter on", 9);
        fault(line, "letter 3", 7);
        fault(line, "letter on 3 on 3", 12);
        String weight = "perhaps weighs and a NUMBER (1 to 99)";
        read(weight, "letter weighs 1;letter weighs 99;letter", 3, "of(0, 2) = 1", "of(1, 2) = 99", "of(2, 2) = 10");
        fault(weight, "letter weighs 0", 14);
        fault(weight, "letter weighs 100", 14);
        fault(weight, "letter weighs", 13);
        fault(weight, "letter weighs 3 on 3", 16);
        String waits = "perhaps waits and a NUMBER (0 to 999)";
        read(waits, "letter waits 0;letter waits 999;letter", 3, "of(0, 3) = 0", "of(1, 3) = 999", "of(2, 3) = 0",
            "of(1, 4) = 0");
        fault(waits, "letter waits 1000", 13);
        fault(waits, "letter waits", 12);
        fault(waits, "letter waits 3 weighs 3", 15);
        String held = "perhaps held: a new one";
        read(held, "letter held;letter", 2, "of(0, 5) = 1", "of(1, 5) = 0", "of(1, 4) = 0", "of(1, 6) = 0");
        fault(held, "letter held on 3", 12);
        fault(held, "letter held held", 12);
        fault(held, "letter held 1", 12);
        String tide = "tide, two NUMBERS (a place of THE LIST, 0 to 5, 0 to 20)";
        read(tide, "tide 0 20;tide 5 20;tide 1 1;tide 1 0", 4, "listed(0) = 20", "listed(5) = 20", "listed(1) = 0");
        fault(tide, "tide 6 0", 5);
        fault(tide, "tide 0 21", 7);
        fault(tide, "tide 0", 6);
        fault(tide, "tide", 4);
        fault(tide, "tide 0 1 2", 9);
        String storm = "storm, a NUMBER (0 to 9)";
        read(storm, "storm 9", 1, "set(1, 5) = 9", "tape \"storm 0\"", "text() = 1", "set(1, 5) = 0");
        fault(storm, "storm 10", 6);
        fault(storm, "storm", 5);
        fault(storm, "storm 1 2", 8);
    }

    private static void faults() {
        promise(0);
        String first = "the place (from 0) of the first byte of the first TOKEN that can't stand there";
        fault(first, "x", 0);
        fault(first, "  x", 2);
        fault(first, "storm 99;tide 99 99;x", 6);
        fault(first, "storm 1;tide 1 99;x;letter on 99", 15);
        fault(first, "storm 1;letter on storm", 18);
        fault("a NUMBER that isn't as told", "tide 1 2;storm 5;letter on 021", 27);
        fault("a NUMBER that isn't as told", "7", 0);
        fault("another WORD", "amber", 0);
        fault("another WORD", "marcel", 0);
        fault("another WORD", "fide 0 1", 0);
        fault("another WORD", "letter in 3", 7);
        fault("another WORD", "letter of 3", 7);
        fault("another WORD", "storm storm", 6);
        fault("another WORD", "storm 1;registere", 8);
        fault("another WORD", "storm 1;registeredd", 8);
        fault("another WORD", "letter letter", 7);
        fault("another WORD", "letter tide 0 1", 7);
        fault("another WORD", "letter on 1 weigh 2", 12);
        fault("a byte that begins no TOKEN", "storm 1;letter!", 14);
        fault("a byte that begins no TOKEN", "!letter", 0);
        fault("a byte that begins no TOKEN", "letter on \u0000", 10);
        fault("a byte that begins no TOKEN", "letter \u00e9", 7);
        fault("a byte that begins no TOKEN", "letter\u00ff", 6);
        fault("a byte that begins no TOKEN", "storm \u00b3", 6);
        String ninth = "the WORD of a 9th PARCEL: its own";
        edge(ninth, behind(fullSlip(), "tape \"storm 3; crate on 99\"", "text() = -10", "now(6) = 0", "count(1) = 8",
            "tape \"storm 3; cratex\"", "text() = -10", "tape \"storm 3;tide 0 1\"", "text() = 2", "now(6) = 4",
            "status(-1) = 0"));
        edge(ninth, "parcel(0, 9) = 0", "tape \"socks;socks;socks;socks;socks;socks;socks;socks\"", "text() = -43",
            "count(1) = 1", "tape \"socks;socks;socks;socks;socks;socks;socks\"", "text() = 7", "count(1) = 8");
        String early = "or how many bytes there are if it ends too early";
        edge(early, "text() = -1", "status(-1) = 0");
        fault(early, " ", 1);
        fault(early, "storm   ", 8);
        fault(early, "tide 0 ", 7);
        fault(early, "letter waits  ", 14);
        fault(early, "storm 1; ", 9);
    }

    private static void spotsAndSheets() {
        promise(0);
        edge("SPOTS 0 to 9 hold a PARCEL or nothing (at first).", "count(7) = 0", "as(0, 0) = MISSING",
            "as(9, 0) = MISSING", "as(10, 0) = BEYOND", "as(-1, 0) = BEYOND", "parcel(0, 0) = 0", "as(0, 0) = MISSING",
            "as(9, 0) = MISSING", "hold(9, 0) = 1", "as(9, 0) = 0", "hold(10, 0) = BEYOND", "hold(-1, 0) = BEYOND");
        edge("SHEETS 0 to 3: rows of at most 40 numbers of 8, 16 or 32 bits", "sheet(0, 8, 40) = 40",
            "sheet(3, 32, 40) = 40", "sheet(1, 16, 40) = 40", "sheet(0, 8, 41) = BEYOND", "sheet(1, 16, 41) = BEYOND",
            "sheet(3, 32, 41) = BEYOND", "sheet(4, 8, 1) = BEYOND", "sheet(-1, 8, 1) = BEYOND",
            "sheet(0, 24, 1) = BEYOND", "sheet(0, 7, 1) = BEYOND", "sheet(0, 33, 1) = BEYOND", "write(0, 39, 1) = 1",
            "write(3, 39, 1) = 1");
        String signed = "(told with their sign: of 8 bits 255 is -1)";
        for (int bits = 8; bits <= 32; bits *= 2) {
            long all = (1L << bits) - 1;
            edge(signed, "parcel(0, 3) = 0", "sheet(0, " + bits + ", 1) = 1", "write(0, 0, " + (int) all + ") = 1",
                "fits(0, 0) = " + ALL_LINES, "load(0) = 0", "write(0, 0, " + (int) (all >> 1) + ") = 1",
                "fits(0, 0) = 0", "load(0) = 0", "write(0, 0, " + (int) ((all >> 1) + 1) + ") = 1", "fits(0, 0) = 0",
                "load(0) = 0");
        }
        edge("or MISSING (at first).", "load(0) = MISSING", "load(1) = MISSING", "load(2) = MISSING",
            "load(3) = MISSING", "judge(0) = MISSING", "write(3, 0, 0) = MISSING");
    }
}
