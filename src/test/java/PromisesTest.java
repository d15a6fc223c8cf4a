import java.util.ArrayList;
import java.util.List;

/** Each promise of the document: ordinary inputs, the edges that it names, wrong inputs. */
public final class PromisesTest {
    public static void main(String[] args) {
        coast();
        parcels();
        kinds();
        signing();
        days();
        dayByDay();
        ceilings();
        whatWillBe();
        howToSend();
        holdingBack();
        toldPlaces();
        draws();
        odds();
        tape();
        texts();
        faults();
        spots();
        sheets();
        copies();
        loadsAndJudges();
        images();
        countsAndStatus();
        Runs.end();
    }

    private static void coast() {
        Runs.run("promise 1: a new object",
            "listed(0) = 0", "listed(1) = 0", "listed(2) = 0", "listed(3) = 0", "listed(4) = 0", "listed(5) = 0",
            "now(0) = 0", "now(1) = 0", "now(2) = 0", "now(3) = 0", "now(4) = 0", "now(5) = 0", "now(6) = 0",
            "now(7) = 0", "count(0) = 0", "count(1) = 0", "count(2) = 0", "count(3) = 0", "count(4) = 0",
            "count(5) = 0", "count(6) = 1", "count(7) = 0", "status(-1) = 0", "set(0, 0) = 0", "set(1, 0) = 0",
            "seed(1) = 1", "wipe() = 0", "tear() = 0", "undo() = NONE", "of(0, 0) = BEYOND",
            "as(0, 0) = MISSING", "as(9, 0) = MISSING", "load(0) = MISSING", "load(1) = MISSING",
            "load(2) = MISSING", "load(3) = MISSING");
        Runs.run("promise 2: tide",
            "tide(0, 20) = 0", "tide(0, 3) = 20", "tide(5, 7) = 0", "tide(5, 0) = 7", "tide(0, 0) = 3",
            "tide(-1, 0) = BEYOND", "tide(6, 0) = BEYOND", "tide(0, -1) = BEYOND", "tide(0, 21) = BEYOND",
            "tide(MIN, MAX) = BEYOND", "status(0) = 5");
        Runs.run("promise 3: listed",
            "tide(1, 4) = 0", "tide(5, 20) = 0", "listed(0) = 0", "listed(1) = 4", "listed(5) = 20",
            "listed(-1) = BEYOND", "listed(6) = BEYOND", "listed(MIN) = BEYOND", "status(0) = 3");
        Runs.run("promise 4: set",
            "set(0, 9999) = 0", "set(0, 7) = 9999", "now(2) = 7", "set(1, 9) = 0", "set(1, 4) = 9", "now(6) = 4",
            "set(0, 0) = 7", "set(1, 0) = 4", "set(0, -1) = BEYOND", "set(0, 10000) = BEYOND",
            "set(1, -1) = BEYOND", "set(1, 10) = BEYOND", "set(2, 0) = BEYOND", "set(-1, 0) = BEYOND",
            "now(2) = 0", "now(6) = 0", "status(0) = 6");
    }

    private static void parcels() {
        Runs.run("promise 5: parcel",
            "parcel(0, 0) = 0", "parcel(6, 20) = 1", "of(0, 0) = 0", "of(0, 1) = 0", "of(1, 0) = 6", "of(1, 1) = 20",
            "of(1, 2) = 10", "of(1, 3) = 0", "of(1, 4) = 0", "of(1, 5) = 0", "of(1, 6) = 0",
            "parcel(-1, 0) = BEYOND", "parcel(7, 0) = BEYOND", "parcel(0, -1) = BEYOND", "parcel(0, 21) = BEYOND",
            "parcel(1, 1) = 2", "parcel(2, 2) = 3", "parcel(3, 3) = 4", "parcel(4, 4) = 5", "parcel(5, 5) = 6",
            "parcel(5, 6) = 7", "parcel(5, 7) = FULL", "parcel(7, 7) = BEYOND", "parcel(5, 21) = BEYOND",
            "count(1) = 8", "of(7, 1) = 6", "of(8, 1) = BEYOND", "status(1) = 1");
        Runs.run("promise 6: of, wrong inputs",
            "of(0, 0) = BEYOND", "parcel(0, 3) = 0", "of(0, 0) = 0", "of(0, -1) = BEYOND", "of(0, 11) = BEYOND",
            "of(-1, 0) = BEYOND", "of(1, 0) = BEYOND", "of(MIN, 0) = BEYOND", "of(0, MAX) = BEYOND",
            "status(-1) = 7");
        Runs.run("promise 7: change",
            "change(0, 1, 3) = BEYOND", "parcel(2, 4) = 0",
            "change(0, 0, 6) = 2", "change(0, 0, 0) = 6", "change(0, 1, 20) = 4", "change(0, 1, 0) = 20",
            "change(0, 2, 99) = 10", "change(0, 2, 1) = 99", "change(0, 3, 9999) = 0", "change(0, 3, 0) = 9999",
            "change(0, 4, 2) = 0", "change(0, 4, 1) = 2", "change(0, 5, 1) = 0", "change(0, 5, 0) = 1",
            "change(0, 6, 9999) = 0", "change(0, 6, 5) = 9999",
            "of(0, 0) = 0", "of(0, 1) = 0", "of(0, 2) = 1", "of(0, 3) = 0", "of(0, 4) = 1", "of(0, 5) = 0",
            "of(0, 6) = 5",
            "change(0, 0, 7) = BEYOND", "change(0, 0, -1) = BEYOND", "change(0, 1, 21) = BEYOND",
            "change(0, 1, -1) = BEYOND", "change(0, 2, 100) = BEYOND", "change(0, 2, 0) = BEYOND",
            "change(0, 3, 10000) = BEYOND", "change(0, 3, -1) = BEYOND", "change(0, 4, 3) = BEYOND",
            "change(0, 4, -1) = BEYOND", "change(0, 5, 2) = BEYOND", "change(0, 5, -1) = BEYOND",
            "change(0, 6, 10000) = BEYOND", "change(0, 6, -1) = BEYOND", "change(0, 7, 1) = BEYOND",
            "change(0, -1, 1) = BEYOND", "change(1, 1, 1) = BEYOND", "change(-1, 1, 1) = BEYOND",
            "of(0, 2) = 1", "of(0, 6) = 5", "status(0) = 19", "status(-1) = 19");
        Runs.run("promise 9: onLine",
            "parcel(0, 3) = 0", "parcel(1, 3) = 1", "parcel(2, 4) = 2", "parcel(5, 3) = 3", "parcel(5, 20) = 4",
            "onLine(3) = 0b1011", "onLine(4) = 0b100", "onLine(20) = 0b10000", "onLine(0) = 0",
            "change(0, 4, 1) = 0", "change(1, 4, 2) = 0", "change(3, 5, 1) = 0", "onLine(3) = 0b1000",
            "onLine(-1) = BEYOND", "onLine(21) = BEYOND", "status(0) = 2");
    }

    private static void kinds() {
        int[][] told = {{2, 12, 0}, {1, 36, 0}, {1, 24, 0}, {1, 24, 1}, {0, 9999, 2}, {5, 15, 0}, {1, 66, 0}};
        for (int kind = 0; kind < told.length; kind++) {
            Runs.run("promise 6: MOVES, LASTS, DELAYS of kind " + kind,
                "parcel(" + kind + ", 0) = 0", "of(0, 7) = " + told[kind][0], "of(0, 8) = " + told[kind][1],
                "of(0, 10) = " + told[kind][2]);
        }
        int[] light = {0, 0, 0, 10, 30, 1, 5};
        int[] middling = {1, 0, 2, 12, 36, 1, 5};
        int[] heavy = {9, 0, 18, 28, 84, 1, 5};
        for (int kind = 0; kind < light.length; kind++) {
            Runs.run("promise 6: PAYS of kind " + kind,
                "parcel(" + kind + ", 0) = 0", "of(0, 9) = " + middling[kind],
                "change(0, 2, 9) = 10", "of(0, 9) = " + light[kind], "change(0, 2, 19) = 9",
                "of(0, 9) = " + middling[kind], "change(0, 2, 99) = 19", "of(0, 9) = " + heavy[kind]);
        }
    }

    private static void signing() {
        Runs.run("promise 8: signs, a PARCEL",
            "parcel(0, 5) = 0", "signs(0, 4) = 0", "signs(0, 5) = 1", "signs(0, 29) = 1", "signs(0, 0) = 0",
            "change(0, 4, 1) = 0", "change(0, 5, 1) = 0", "signs(0, 5) = 1", "signs(0, 30) = BEYOND",
            "signs(0, -1) = BEYOND", "signs(1, 5) = BEYOND", "signs(-1, 5) = BEYOND",
            "change(0, 1, 0) = 5", "signs(0, 0) = 1", "status(0) = 4");
        Runs.run("promise 8: signs, a LETTER and a REGISTERED one",
            "parcel(1, 5) = 0", "signs(0, 4) = 0", "signs(0, 5) = 1", "change(0, 2, 4) = 10", "signs(0, 29) = 0",
            "change(0, 2, 5) = 4", "signs(0, 5) = 1", "change(0, 0, 6) = 1", "signs(0, 5) = 1", "signs(0, 4) = 0",
            "change(0, 2, 4) = 5", "signs(0, 5) = 0", "change(0, 2, 5) = 4", "go(1) = 0", "signs(0, 29) = 0",
            "change(0, 0, 1) = 6", "signs(0, 29) = 1", "go(1) = 0", "change(0, 0, 6) = 1", "signs(0, 29) = 1");
        for (int kind = 2; kind <= 4; kind++) {
            Runs.run("promise 8: signs, a CRATE and those under it, kind " + kind,
                "parcel(" + kind + ", 5) = 0", "change(0, 6, 7) = 0", "change(0, 2, 19) = 10", "signs(0, 4) = 0",
                "signs(0, 5) = 1", "change(0, 2, 20) = 19", "signs(0, 5) = 0", "signs(0, 6) = 1",
                "change(0, 2, 99) = 20", "signs(0, 8) = 0", "signs(0, 9) = 1", "change(0, 2, 4) = 99",
                "signs(0, 5) = 1", "change(0, 1, 20) = 5", "change(0, 2, 99) = 4", "signs(0, 23) = 0",
                "signs(0, 24) = 1", "go(1) = 0", "signs(0, 24) = 1");
        }
        Runs.run("promise 8: signs, a BRIDE's box",
            "parcel(4, 5) = 0", "signs(0, 29) = 0", "change(0, 6, 6) = 0", "signs(0, 29) = 0", "change(0, 6, 7) = 6",
            "signs(0, 29) = 1", "change(0, 6, 9999) = 7", "signs(0, 5) = 1", "signs(0, 4) = 0");
        Runs.run("promise 8: signs, SOCKS",
            "parcel(5, 20) = 0", "signs(0, 0) = 0", "signs(0, 1) = 1", "change(0, 2, 1) = 10", "signs(0, 1) = 1",
            "change(0, 1, 0) = 20", "signs(0, 0) = 0");
    }

    private static void days() {
        Runs.run("promise 10: go",
            "tide(0, 5) = 0", "tide(1, 9) = 0", "parcel(0, 5) = 0", "parcel(2, 9) = 1", "parcel(1, 20) = 2",
            "go(1) = 0b1", "now(0) = 1", "now(1) = 1", "of(1, 1) = 9", "of(1, 3) = 1", "of(0, 3) = 0",
            "go(1) = 0b11", "now(0) = 2", "now(1) = 3", "go(58) = 0b11", "now(0) = 60", "go(60) = 0b11",
            "now(0) = 120", "go(0) = BEYOND", "go(61) = BEYOND", "go(-1) = BEYOND", "go(MAX) = BEYOND",
            "now(0) = 120", "status(0) = 4", "status(-1) = 4");
        Runs.run("promise 11: now",
            "tide(0, 5) = 0", "tide(2, 8) = 0", "set(1, 3) = 0", "parcel(3, 8) = 0", "parcel(0, 20) = 1",
            "parcel(2, 20) = 2", "change(1, 3, 12) = 0", "change(1, 2, 50) = 10", "change(2, 5, 1) = 0",
            "now(0) = 0", "now(1) = 0", "now(2) = 0", "now(3) = 0b111", "now(4) = 0", "now(5) = 0", "now(6) = 8",
            "now(7) = 70", "go(1) = 0b1", "now(0) = 1", "now(1) = 12", "now(2) = 1", "now(3) = 0b100",
            "now(4) = 0b1", "now(5) = 0b10", "now(6) = 11", "now(7) = 10", "now(-1) = BEYOND", "now(8) = BEYOND",
            "now(MIN) = BEYOND", "status(0) = 3");
        Runs.run("terms: THE TIDE of a DAY goes round by 6",
            "tide(0, 1) = 0", "tide(1, 2) = 0", "tide(2, 3) = 0", "tide(3, 4) = 0", "tide(4, 5) = 0",
            "tide(5, 6) = 0", "sea(6, 0) = 1", "sea(6, 5) = 6", "sea(6, 6) = 1", "sea(6, 100) = 5",
            "set(0, 9999) = 0", "now(6) = 4", "set(0, 5) = 9999", "now(6) = 6", "go(1) = 0", "now(6) = 1",
            "set(1, 9) = 0", "now(6) = 10");
    }

    private static void dayByDay() {
        Runs.run("terms: a refused PARCEL is touched from three LINES below on",
            "tide(0, 6) = 0", "parcel(0, 9) = 0", "parcel(0, 10) = 1", "parcel(0, 7) = 2", "parcel(0, 6) = 3",
            "go(1) = 0b1000", "of(0, 1) = 11", "of(0, 6) = 1", "of(1, 1) = 10", "of(1, 6) = 0", "of(2, 1) = 9",
            "of(2, 6) = 1", "of(3, 1) = 6", "of(3, 6) = 0", "of(0, 3) = 1", "of(3, 3) = 0");
        Runs.run("terms: no tide touches nothing",
            "parcel(0, 2) = 0", "parcel(5, 2) = 1", "parcel(0, 0) = 2", "go(1) = 0b100", "of(0, 1) = 2",
            "of(0, 6) = 0", "of(1, 1) = 2", "of(1, 6) = 0");
        Runs.run("terms: the lowest tide that touches",
            "tide(0, 1) = 0", "parcel(0, 3) = 0", "parcel(0, 4) = 1", "parcel(0, 5) = 2", "go(1) = 0",
            "of(0, 1) = 5", "of(1, 1) = 6", "of(2, 1) = 5", "of(1, 6) = 1", "of(2, 6) = 0");
        Runs.run("terms: MOVES of each kind, 20 at most",
            "tide(0, 6) = 0", "parcel(0, 7) = 0", "parcel(1, 7) = 1", "parcel(2, 7) = 2", "parcel(3, 7) = 3",
            "parcel(4, 7) = 4", "parcel(6, 7) = 5", "go(1) = 0", "of(0, 1) = 9", "of(1, 1) = 8", "of(2, 1) = 8",
            "of(3, 1) = 8", "of(4, 1) = 7", "of(5, 1) = 8", "of(4, 6) = 1", "tide(1, 18) = 0", "change(0, 1, 19) = 9",
            "change(1, 1, 20) = 8", "go(1) = 0b1100", "of(0, 1) = 20", "of(1, 1) = 20");
        Runs.run("terms: one that is HELD back isn't met, but waits",
            "tide(0, 6) = 0", "parcel(0, 6) = 0", "parcel(0, 7) = 1", "change(0, 5, 1) = 0", "change(1, 5, 1) = 0",
            "go(1) = 0", "of(0, 3) = 1", "of(1, 3) = 1", "of(1, 1) = 7", "of(1, 6) = 0", "of(0, 4) = 0",
            "go(11) = 0", "of(0, 3) = 12", "of(0, 4) = 0", "go(1) = 0", "of(0, 3) = 13", "of(0, 4) = 2",
            "go(1) = 0", "of(0, 3) = 13", "now(5) = 0b11");
        Runs.run("terms: what is taken or spoilt is met no more",
            "tide(0, 6) = 0", "parcel(0, 7) = 0", "parcel(0, 6) = 1", "parcel(0, 6) = 2", "change(0, 4, 1) = 0",
            "change(1, 4, 2) = 0", "go(1) = 0b101", "now(1) = 1", "of(0, 1) = 7", "of(0, 6) = 0", "of(0, 3) = 0",
            "of(1, 3) = 0", "of(1, 4) = 2");
        int[] lasts = {12, 36, 24, 24, -1, 15, 66};
        for (int kind = 0; kind < lasts.length; kind++) {
            Runs.run("terms: how long kind " + kind + " lasts",
                "parcel(" + kind + ", 20) = 0",
                lasts[kind] < 0 ? "when(0, 2) = NONE" : "when(0, 2) = " + (lasts[kind] + 1), "when(0, 1) = NONE");
        }
        Runs.run("terms: t stays what it was as the DAY began, though a CLOCK is taken",
            "tide(0, 6) = 0", "parcel(3, 6) = 0", "parcel(0, 6) = 1", "go(1) = 0b11", "now(2) = 1", "now(1) = 13");
        Runs.run("terms: a BRIDE's box must be turned over seven times",
            "tide(0, 9) = 0", "tide(1, 9) = 0", "tide(2, 9) = 0", "tide(3, 9) = 0", "tide(4, 9) = 0", "tide(5, 9) = 0",
            "parcel(4, 9) = 0", "ahead(0, 6, 7) = 7", "ahead(0, 4, 7) = 0", "when(0, 1) = 8", "sea(1, 8) = 36",
            "sea(2, 8) = 2", "ahead(0, 1, 8) = 9", "ahead(0, 3, 8) = 7", "go(8) = 1", "now(1) = 36", "now(2) = 2");
        Runs.run("terms: REGISTERED goes on even DAYS",
            "tide(0, 0) = 0", "tide(1, 9) = 0", "tide(2, 0) = 0", "tide(4, 9) = 0", "parcel(6, 9) = 0",
            "when(0, 1) = NONE", "tide(4, 10) = 9", "when(0, 1) = 5", "go(5) = 1", "of(0, 1) = 10", "now(1) = 5");
    }

    private static void ceilings() {
        Runs.run("terms: LATE, WAITS and TURNED at their most",
            "tide(3, 9) = 0", "set(0, 9999) = 0", "parcel(4, 9) = 0", "parcel(4, 9) = 1", "parcel(3, 20) = 2",
            "change(0, 6, 9999) = 0", "change(1, 3, 9999) = 0", "change(1, 5, 1) = 0", "change(2, 6, 9999) = 0",
            "change(2, 1, 12) = 20", "go(1) = 0b1", "now(2) = 9999", "of(1, 3) = 9999", "of(1, 4) = 0",
            "of(2, 6) = 9999", "of(2, 1) = 13");
        Runs.run("terms: LATE is 9999 at most",
            "set(0, 9998) = 0", "tide(2, 9) = 0", "parcel(4, 9) = 0", "change(0, 6, 7) = 0", "go(1) = 1",
            "now(2) = 9999");
        SeaParcels x = Runs.run("DAY at its most (behind more calls than are promised)");
        for (int i = 0; i < 1666; i++) {
            x.go(60);
        }
        Runs.more("DAY at its most", x,
            "now(0) = 99960", "go(40) = STATE", "go(61) = BEYOND", "image() = 1", "go(39) = 0", "now(0) = 99999",
            "tide(3, 7) = 0", "tide(4, 8) = 0", "now(6) = 7", "sea(6, 1) = 7", "undo() = 99960", "swell(20) = 0",
            "go(20) = STATE", "swell(20) = STATE", "swell(21) = BEYOND", "swell(19) = 0", "now(0) = 99999",
            "go(1) = STATE", "swell(1) = STATE", "now(0) = 99999", "status(4) = 5");
        SeaParcels rich = new SeaParcels();
        List<String> rows = new ArrayList<>();
        for (int i = 0; i < 6; i++) {
            rows.add("tide(" + i + ", 20) = 0");
        }
        for (int i = 0; i < 8; i++) {
            rows.add("parcel(4, 0) = " + i);
            rows.add("change(" + i + ", 2, 99) = 10");
            rows.add("change(" + i + ", 6, 7) = 0");
        }
        Runs.more("AMBER at its most (behind more calls than are promised)", rich, rows.toArray(new String[0]));
        for (int round = 0; round < 149; round++) {
            for (int i = 0; i < 8; i++) {
                rich.change(i, 4, 0);
            }
            rich.go(1);
        }
        Runs.more("AMBER at its most", rich, "now(1) = 99999", "paid(99999) = 0");
    }

    private static void whatWillBe() {
        Runs.run("promise 12: ahead",
            "tide(0, 6) = 0", "tide(1, 9) = 0", "parcel(0, 8) = 0", "ahead(0, 1, 0) = 8", "ahead(0, 1, 1) = 10",
            "ahead(0, 1, 2) = 12", "ahead(0, 6, 2) = 2", "ahead(0, 3, 2) = 2", "ahead(0, 4, 2) = 0",
            "ahead(0, 4, 13) = 2", "ahead(0, 3, 100) = 13", "ahead(0, 4, 100) = 2", "of(0, 1) = 8", "now(0) = 0",
            "ahead(0, 0, 1) = BEYOND", "ahead(0, 2, 1) = BEYOND", "ahead(0, 5, 1) = BEYOND",
            "ahead(0, 7, 1) = BEYOND", "ahead(0, -1, 1) = BEYOND", "ahead(0, 1, -1) = BEYOND",
            "ahead(0, 1, 101) = BEYOND", "ahead(1, 1, 1) = BEYOND", "ahead(-1, 1, 1) = BEYOND", "status(0) = 9");
        Runs.run("promise 13: sea",
            "tide(0, 6) = 0", "tide(2, 7) = 0", "set(1, 1) = 0", "parcel(3, 7) = 0", "sea(1, 0) = 0", "sea(2, 0) = 0",
            "sea(6, 0) = 7", "sea(1, 1) = 12", "sea(2, 1) = 1", "sea(6, 1) = 8", "sea(1, 100) = 12",
            "sea(2, 100) = 1", "now(1) = 0", "now(2) = 0", "sea(0, 1) = BEYOND", "sea(3, 1) = BEYOND",
            "sea(4, 1) = BEYOND", "sea(5, 1) = BEYOND", "sea(7, 1) = BEYOND", "sea(1, -1) = BEYOND",
            "sea(1, 101) = BEYOND", "status(0) = 7");
        Runs.run("promise 14: when",
            "tide(3, 6) = 0", "parcel(0, 6) = 0", "parcel(0, 20) = 1", "parcel(4, 20) = 2", "when(0, 1) = 4",
            "when(0, 2) = NONE", "when(1, 1) = NONE", "when(1, 2) = 13", "when(2, 1) = NONE", "when(2, 2) = NONE",
            "change(0, 4, 1) = 0", "when(0, 1) = 0", "change(1, 4, 2) = 0", "when(1, 2) = 0", "when(0, 0) = BEYOND",
            "when(0, 3) = BEYOND", "when(0, -1) = BEYOND", "when(3, 1) = BEYOND", "when(-1, 1) = BEYOND",
            "status(0) = 5", "status(3) = 4", "now(0) = 0");
        Runs.run("promise 14: when, one that WAITS long",
            "parcel(4, 20) = 0", "change(0, 3, 9799) = 0", "when(0, 2) = NONE", "change(0, 0, 6) = 4",
            "change(0, 3, 0) = 9799", "when(0, 2) = 67");
        Runs.run("promise 14: when, a BRIDE's box is turned over once in six DAYS",
            "tide(0, 9) = 0", "parcel(4, 9) = 0", "when(0, 1) = 43", "cleared() = 43", "paid(36) = 43",
            "set(0, 2) = 0", "when(0, 1) = 47");
        Runs.run("promise 15: cleared",
            "cleared() = 0", "tide(2, 6) = 0", "parcel(0, 6) = 0", "cleared() = 3", "parcel(1, 20) = 1",
            "cleared() = 37", "parcel(4, 20) = 2", "cleared() = NONE", "change(2, 4, 2) = 0", "cleared() = 37",
            "change(2, 4, 0) = 2", "change(2, 5, 1) = 0", "cleared() = NONE", "status(3) = 2", "now(0) = 0");
        Runs.run("promise 16: paid",
            "paid(0) = 0", "paid(1) = NONE", "tide(1, 6) = 0", "tide(2, 10) = 0", "parcel(0, 6) = 0",
            "parcel(3, 10) = 1", "paid(1) = 2", "paid(2) = 3", "paid(13) = 3", "paid(14) = NONE", "go(2) = 1",
            "paid(1) = 0", "paid(2) = 1", "paid(99999) = NONE", "paid(100000) = BEYOND", "paid(-1) = BEYOND",
            "status(0) = 2", "status(3) = 3", "now(1) = 1");
    }

    private static void howToSend() {
        Runs.run("promise 17: lineFor",
            "tide(1, 6) = 0", "tide(2, 11) = 0", "parcel(0, 20) = 0", "lineFor(0, 0) = NONE", "lineFor(0, 1) = 0",
            "lineFor(0, 2) = 6", "lineFor(0, 3) = 11", "lineFor(0, 60) = 11", "of(0, 1) = 20",
            "change(0, 0, 2) = 0", "change(0, 2, 99) = 10", "lineFor(0, 1) = NONE", "lineFor(0, 3) = 6",
            "tide(0, 3) = 0", "lineFor(0, 1) = NONE", "tide(0, 4) = 3", "lineFor(0, 1) = 0", "tide(0, 0) = 4",
            "change(0, 5, 1) = 0", "lineFor(0, 3) = NONE", "change(0, 4, 1) = 0", "lineFor(0, 0) = 20",
            "change(0, 4, 2) = 1", "lineFor(0, 9) = NONE", "lineFor(0, -1) = BEYOND", "lineFor(0, 61) = BEYOND",
            "lineFor(1, 1) = BEYOND", "lineFor(-1, 1) = BEYOND", "status(0) = 4", "status(3) = 5", "of(0, 1) = 20");
        Runs.run("promise 18: weightFor",
            "tide(1, 10) = 0", "parcel(2, 7) = 0", "weightFor(0, 0) = NONE", "weightFor(0, 1) = NONE",
            "weightFor(0, 2) = 79", "change(0, 1, 6) = 7", "weightFor(0, 2) = 99", "change(0, 1, 8) = 6",
            "weightFor(0, 2) = 59", "change(0, 1, 9) = 8", "weightFor(0, 60) = 39", "change(0, 1, 10) = 9",
            "weightFor(0, 2) = 19", "change(0, 1, 11) = 10", "weightFor(0, 2) = NONE", "change(0, 0, 0) = 2",
            "change(0, 1, 10) = 11", "weightFor(0, 2) = 99", "change(0, 0, 1) = 0", "weightFor(0, 2) = 99",
            "of(0, 2) = 10", "weightFor(0, -1) = BEYOND", "weightFor(0, 61) = BEYOND", "weightFor(1, 1) = BEYOND",
            "weightFor(-1, 1) = BEYOND", "status(0) = 4", "status(3) = 3");
        Runs.run("promise 19: kindFor",
            "tide(0, 6) = 0", "parcel(0, 6) = 0", "kindFor(0, 0) = 0", "kindFor(0, 1) = 3", "change(0, 2, 39) = 10",
            "kindFor(0, 1) = 6", "change(0, 2, 60) = 39", "kindFor(0, 1) = 0", "change(0, 2, 59) = 60",
            "kindFor(0, 1) = 0", "change(0, 2, 4) = 59", "kindFor(0, 1) = 3", "change(0, 1, 7) = 6",
            "kindFor(0, 1) = 5", "change(0, 6, 7) = 0", "change(0, 1, 6) = 7", "kindFor(0, 1) = 4",
            "change(0, 5, 1) = 0", "kindFor(0, 60) = 0", "of(0, 0) = 0", "kindFor(0, -1) = BEYOND",
            "kindFor(0, 61) = BEYOND", "kindFor(1, 1) = BEYOND", "kindFor(-1, 1) = BEYOND", "status(0) = 4");
        Runs.run("promise 20: stormFor",
            "tide(1, 6) = 0", "set(1, 5) = 0", "parcel(0, 9) = 0", "stormFor(0, 0) = NONE", "stormFor(0, 1) = 9",
            "stormFor(0, 2) = 3", "tide(0, 2) = 0", "stormFor(0, 1) = 7", "stormFor(0, 2) = 3",
            "change(0, 1, 17) = 9", "stormFor(0, 60) = NONE", "change(0, 1, 6) = 17", "stormFor(0, 2) = 0",
            "change(0, 5, 1) = 0", "stormFor(0, 2) = NONE", "change(0, 4, 1) = 0", "stormFor(0, 0) = 0",
            "now(6) = 7", "stormFor(0, -1) = BEYOND", "stormFor(0, 61) = BEYOND", "stormFor(1, 1) = BEYOND",
            "stormFor(-1, 1) = BEYOND", "status(0) = 4", "status(3) = 3");
    }

    private static void holdingBack() {
        Runs.run("promise 21: holdBack",
            "holdBack(20) = 0", "tide(0, 6) = 0", "tide(3, 9) = 0", "parcel(0, 6) = 0", "parcel(3, 6) = 1",
            "parcel(4, 9) = 2", "parcel(3, 9) = 3", "parcel(3, 20) = 4", "parcel(2, 6) = 5", "change(2, 6, 6) = 0",
            "holdBack(0) = 0", "holdBack(1) = 0b10", "holdBack(3) = 0b10", "holdBack(4) = 0b110",
            "change(3, 1, 11) = 9", "holdBack(20) = 0b110", "change(3, 1, 13) = 11", "holdBack(20) = 0b110",
            "change(1, 5, 1) = 0", "holdBack(20) = 0b100", "set(0, 9999) = 0", "holdBack(20) = 0",
            "set(0, 9998) = 9999", "change(1, 5, 0) = 1", "holdBack(20) = 0b110", "of(1, 5) = 0", "now(2) = 9998",
            "holdBack(-1) = BEYOND", "holdBack(21) = BEYOND", "status(0) = 2", "status(-1) = 2");
        Runs.run("promise 21: holdBack, a full slip",
            "tide(0, 6) = 0", "parcel(3, 6) = 0", "parcel(3, 7) = 1", "parcel(0, 6) = 2", "parcel(5, 6) = 3",
            "parcel(3, 5) = 4", "parcel(4, 6) = 5", "parcel(2, 6) = 6", "parcel(3, 0) = 7", "holdBack(1) = 0b10010001",
            "change(5, 6, 7) = 0", "holdBack(1) = 0b10110001");
        Runs.run("promise 21: holdBack looks at what comes if LATE stays",
            "tide(0, 6) = 0", "tide(3, 12) = 0", "parcel(3, 6) = 0", "parcel(3, 12) = 1", "ahead(1, 4, 3) = 1",
            "holdBack(3) = 0b1", "holdBack(4) = 0b11");
    }

    private static void toldPlaces() {
        Runs.run("promise 22: fits",
            "fits(0, 0) = MISSING", "fits(-1, 0) = BEYOND", "fits(4, 0) = BEYOND", "sheet(0, 8, 0) = 0",
            "fits(0, 0) = BEYOND", "tide(0, 6) = 0", "tide(1, 6) = 0", "parcel(0, 20) = 0", "fits(0, 0) = 2097151",
            "fits(1, 0) = MISSING", "fits(0, 1) = BEYOND", "fits(0, -1) = BEYOND", "fits(1, 1) = MISSING",
            "fits(4, 1) = BEYOND", "sheet(0, 8, 2) = 2", "write(0, 0, 9) = 1", "write(0, 1, 11) = 1",
            "fits(0, 0) = 0b10000000", "write(0, 1, 255) = 1", "fits(0, 0) = 0b10000000",
            "write(0, 0, 10) = 1", "fits(0, 0) = 0b10100000000", "write(0, 1, 10) = 1",
            "fits(0, 0) = 0b10100000000", "write(0, 0, -1) = 1", "write(0, 1, 12) = 1",
            "fits(0, 0) = 0b1000000000000", "write(0, 0, 21) = 1", "fits(0, 0) = 0", "write(0, 0, -2) = 1",
            "fits(0, 0) = 0", "of(0, 1) = 20", "now(0) = 0", "sheet(0, 32, 40) = 40", "fits(0, 0) = 1",
            "change(0, 4, 1) = 0", "fits(0, 0) = 1", "status(0) = 6", "status(5) = 3");
        Runs.run("promise 23: kinds",
            "kinds(0, 0) = MISSING", "kinds(-1, 0) = BEYOND", "kinds(4, 0) = BEYOND", "sheet(0, 16, 0) = 0",
            "kinds(0, 0) = BEYOND", "tide(0, 6) = 0", "parcel(0, 7) = 0", "kinds(0, 0) = 0b1111111",
            "kinds(0, 1) = BEYOND", "kinds(1, 1) = MISSING", "kinds(4, 1) = BEYOND", "sheet(0, 16, 2) = 2",
            "write(0, 0, 9) = 1", "write(0, 1, -1) = 1", "kinds(0, 0) = 0b1", "write(0, 0, 8) = 1",
            "kinds(0, 0) = 0b1001110", "write(0, 0, 7) = 1", "kinds(0, 0) = 0b110000", "write(0, 1, 8) = 1",
            "kinds(0, 0) = 0", "write(0, 0, 65535) = 1", "write(0, 1, 7) = 1", "kinds(0, 0) = 0b110000",
            "of(0, 0) = 0", "status(0) = 5", "status(5) = 2");
    }

    private static void draws() {
        // From z 1: 1103527590, 2524885223, .. : the draws are z >>> 8.
        Runs.run("promise 24: swell",
            "swell(0) = BEYOND", "swell(21) = BEYOND", "swell(-1) = BEYOND", "count(6) = 1", "seed(1) = 1",
            "swell(1) = 0", "count(6) = -1770082073", "now(0) = 1",
            "listed(" + (1103527590 >>> 8) % 6 + ") = " + (-1770082073 >>> 8) % 21, "swell(20) = 0", "now(0) = 21",
            "status(0) = 3");
        int z = -77;
        int[] list = new int[6];
        SeaParcels x = Runs.run("promise 24: swell, draw by draw", "seed(-77) = 1", "parcel(5, 9) = 0");
        int taken = 0;
        for (int i = 0; i < 15; i++) {
            z = z * 1103515245 + 12345;
            int place = (z >>> 8) % 6;
            z = z * 1103515245 + 12345;
            list[place] = (z >>> 8) % 21;
            taken |= list[i % 6] > 0 ? 1 : 0;
            Runs.more("promise 24: swell, draw by draw", x, "swell(1) = " + taken, "count(6) = " + z);
            for (int j = 0; j < 6; j++) {
                Runs.more("promise 24: swell, draw by draw", x, "listed(" + j + ") = " + list[j]);
            }
        }
        Runs.more("promise 24: swell", Runs.run("promise 24: swell", "seed(-77) = 1", "swell(15) = 0"),
            "count(6) = " + z, "now(0) = 15");
        Runs.run("promise 26: seed",
            "seed(MIN) = 1", "count(6) = MIN", "seed(-1000001) = MIN", "count(6) = -1000001",
            "seed(0) = -1000001", "seed(MAX) = 0", "status(-1) = 0");
    }

    private static void odds() {
        Runs.run("promise 25: odds",
            "parcel(0, 3) = 0", "odds(0, 0, 0) = 1", "odds(0, 0, 1) = 1", "odds(0, 1, 0) = 1", "odds(0, 1, 1) = 7",
            "odds(0, 2, 1) = 49", "odds(0, 13, 0) = 1", "odds(0, 13, 1) = 96889010407", "change(0, 1, 20) = 3",
            "odds(0, 13, 0) = 81920000000000000", "odds(0, 13, 1) = 154472377739119461", "change(0, 1, 0) = 20",
            "odds(0, 3, 0) = 0", "odds(0, 3, 1) = 1", "odds(0, 0, 0) = 1", "odds(0, 0, 1) = 1",
            "change(0, 1, 14) = 0", "odds(0, 3, 0) = 8", "odds(0, 3, 1) = 27", "change(0, 1, 9) = 14",
            "odds(0, 2, 0) = 9", "odds(0, 2, 1) = 49", "change(0, 0, 4) = 0", "odds(0, 13, 0) = 1",
            "odds(0, 13, 1) = 1", "change(0, 0, 5) = 4", "odds(0, 2, 0) = 1", "odds(0, 2, 1) = 441",
            "set(1, 9) = 0", "odds(0, 2, 1) = 441", "change(0, 4, 1) = 0", "odds(0, 2, 1) = 441",
            "count(6) = 1", "odds(0, -1, 0) = BEYOND", "odds(0, 14, 0) = BEYOND", "odds(0, 1, 2) = BEYOND",
            "odds(0, 1, -1) = BEYOND", "odds(1, 1, 0) = BEYOND", "odds(-1, 1, 0) = BEYOND", "status(0) = 6");
        Runs.run("promise 25: odds on an odd DAY",
            "parcel(6, 7) = 0", "odds(0, 2, 0) = 1", "odds(0, 2, 1) = 9", "go(1) = 0", "odds(0, 2, 0) = 1",
            "odds(0, 2, 1) = 1", "change(0, 0, 2) = 6", "change(0, 2, 99) = 10", "odds(0, 1, 0) = 11",
            "odds(0, 1, 1) = 21");
    }

    private static void tape() {
        SeaParcels x = Runs.run("promise 27: feed",
            "feed(0, 0) = BEYOND", "feed(0, 5) = BEYOND", "feed(0, -1) = BEYOND", "count(5) = 0",
            "feed(29728, 1) = 1", "feed(7611492, 3) = 4", "feed(26912, 2) = 6", "wipe() = 6", "count(5) = 0",
            "wipe() = 0");
        for (int i = 1; i <= 29; i++) {
            x.feed(0, 4);
        }
        Runs.more("promise 27: feed", x,
            "count(5) = 116", "feed(0, 3) = 119", "feed(0, 2) = FULL", "feed(0, 5) = BEYOND", "feed(0, 4) = FULL",
            "feed(0, 1) = 120", "feed(0, 1) = FULL", "count(5) = 120", "wipe() = 120", "feed(0, 1) = 1",
            "status(1) = 3", "status(0) = 4");
        // "tide 1 3": the highest byte of those told comes first, others are cut off.
        Runs.run("promise 27: feed, the order of bytes",
            "feed(1953064037, 4) = 4", "feed(2105632, 1) = 5", "feed(2109728, 2) = 7", "feed(-8141, 1) = 8",
            "text() = 1", "listed(1) = 3", "count(5) = 0", "feed(1953064037, 4) = 4", "feed(540155956, 4) = 8",
            "text() = 1", "listed(2) = 4");
    }

    private static void texts() {
        Runs.run("promise 29: text",
            "tape \"crate on 12 weighs 44 waits 3 held;tide 5 20; storm 9 ;socks\"", "text() = 4", "count(5) = 0",
            "count(1) = 2", "of(0, 0) = 2", "of(0, 1) = 12", "of(0, 2) = 44", "of(0, 3) = 3", "of(0, 4) = 0",
            "of(0, 5) = 1", "of(0, 6) = 0", "of(1, 0) = 5", "of(1, 1) = 0", "of(1, 2) = 10", "of(1, 3) = 0",
            "of(1, 5) = 0", "listed(5) = 20", "set(1, 0) = 9",
            "tape \"parcel;letter;clock;bride;registered;socks\"", "text() = 6", "of(2, 0) = 0", "of(3, 0) = 1",
            "of(4, 0) = 3", "of(5, 0) = 4", "of(6, 0) = 6", "of(7, 0) = 5", "status(-1) = 0");
        Runs.run("promise 29: text, all as short as can be",
            "tape \"parcel on020weighs099waits0999held;tide5 020;storm009\"", "text() = 3", "of(0, 1) = 20",
            "of(0, 2) = 99", "of(0, 3) = 999", "of(0, 5) = 1", "listed(5) = 20", "set(1, 0) = 9");
        Runs.run("promise 29: text, parts left out",
            "tape \"letter weighs 5;letter waits 0;letter held;letter on 0 held;letter on 7 waits 9\"", "text() = 5",
            "of(0, 2) = 5", "of(1, 3) = 0", "of(2, 5) = 1", "of(2, 1) = 0", "of(3, 5) = 1", "of(4, 1) = 7",
            "of(4, 3) = 9", "of(4, 2) = 10");
        Runs.run("promise 29: text, item by item",
            "tape \"tide 0 5;tide 0 7;storm 3;storm 0\"", "text() = 4", "listed(0) = 7", "now(6) = 7",
            "tape \"     storm 1     \"", "text() = 1", "now(6) = 8");
        Runs.run("promise 29: text, the least of each number",
            "tide(0, 3) = 0", "set(1, 4) = 0", "tape \"tide 0 0;storm 0;parcel on 0 weighs 1 waits 0\"", "text() = 3",
            "listed(0) = 0", "now(6) = 0", "of(0, 2) = 1");
        Runs.run("promise 29: text, bytes that were there before count no more",
            "tape \"storm 9;socks held;letter\"", "wipe() = 25", "tape \"storm 9\"", "text() = 1", "count(1) = 0",
            "tape \"tide 0 12;socks\"", "wipe() = 15", "tape \"tide 0 1\"", "text() = 1", "listed(0) = 1",
            "tape \"socks held\"", "wipe() = 10", "tape \"socks\"", "text() = 1", "of(0, 5) = 0",
            "tape \"socks held\"", "wipe() = 10", "tape \"sock\"", "text() = -1");
        Runs.run("promise 29: text, what was stays",
            "parcel(3, 9) = 0", "hold(4, 0) = 1", "image() = 1", "seed(5) = 1", "set(0, 3) = 0",
            "tape \"parcel\"", "text() = 1", "of(0, 0) = 3", "as(4, 3) = 0", "now(2) = 3", "count(6) = 5",
            "undo() = 0", "count(1) = 1", "now(2) = 0");
        Runs.run("promise 29: text, 120 bytes of it",
            "tape \"storm 1;storm 1;storm 1;storm 1;storm 1;storm 1;storm 1;storm 1;storm 1;storm 1;storm 1;"
                + "storm 1;storm 1;storm 1;storm  7\"", "count(5) = 120", "text() = 15", "now(6) = 7");
    }

    private static void fault(String text, int place) {
        Runs.run("promise 29: a fault, \"" + text + "\"",
            "parcel(2, 4) = 0", "tape \"" + text + "\"", "text() = " + (-1 - place), "count(5) = 0",
            "count(1) = 1", "listed(0) = 0", "now(6) = 0", "status(-1) = 0");
    }

    private static void faults() {
        Runs.run("promise 29: an empty text", "text() = -1", "status(-1) = 0");
        fault("   ", 3);
        fault(";", 0);
        fault("storm 3;", 8);
        fault("storm 3; ", 9);
        fault("storm 3;;storm 3", 8);
        fault("storm 3 storm 3", 8);
        fault("storm 3 7", 8);
        fault("storm 10", 6);
        fault("storm", 5);
        fault("storm ;", 6);
        fault("storm x", 6);
        fault("storms 3", 0);
        fault("stor", 0);
        fault("tide 6 3", 5);
        fault("tide 0 21", 7);
        fault("tide 0", 6);
        fault("tide", 4);
        fault("tide x 3", 5);
        fault("tide 0 x", 7);
        fault("tide 0 1000", 7);
        fault("tide 0 4294967297", 7);
        fault("tide 0 99999999999999999999", 7);
        fault("tide 0 3 4", 9);
        fault("parcel on 21", 10);
        fault("parcel on", 9);
        fault("parcel on ", 10);
        fault("parcel on;", 9);
        fault("parcel on on", 10);
        fault("parcel weighs 0", 14);
        fault("parcel weighs 100", 14);
        fault("parcel weighs", 13);
        fault("parcel waits 1000", 13);
        fault("parcel waits x", 13);
        fault("parcel held held", 12);
        fault("parcel held on 3", 12);
        fault("parcel waits 1 weighs 3", 15);
        fault("parcel weighs 1 on 3", 16);
        fault("parcel 3", 7);
        fault("parcel on 3 4", 12);
        fault("parcelon 3", 0);
        fault("parcel letter", 7);
        fault("Parcel", 0);
        fault("marcel", 0);
        fault("parcem", 0);
        fault("parcela", 0);
        fault("parcelz", 0);
        fault("parcel`", 6);
        fault("parcel{", 6);
        fault("parcel an 3", 7);
        fault("storm 3/", 7);
        fault("storm 3:", 7);
        fault("storm :", 6);
        fault("parcel waits 9990", 13);
        fault("parcel waits 9999", 13);
        fault("parcel -1", 7);
        fault("parceL", 0);
        fault("storm 3;parcel!", 14);
        fault("storm 3;\tparcel", 8);
        fault("storm 3;parcel\u00ff", 14);
        fault("storm 3;parcel on 4{", 19);
        fault("3", 0);
        fault("held", 0);
        fault("tide 0 7;storm 4;parcel on 21;socks", 27);
        fault("socks;socks;socks;socks;socks;socks;socks;socks", 42);
        fault("socks;socks;socks;socks;socks;socks;socks; crate on 99", 43);
        Runs.run("promise 29: a 9th PARCEL",
            "parcel(0, 0) = 0", "tape \"socks;socks;socks;socks;socks;socks;socks\"", "text() = 7", "tape \"socks\"",
            "text() = -1", "tape \"tide 0 4;sea\"", "text() = -10", "tape \"tide 0 4;socks\"", "text() = -10",
            "tape \"tide 0 4\"", "text() = 1", "count(1) = 8", "listed(0) = 4");
    }

    private static void spots() {
        Runs.run("promise 30: hold",
            "hold(0, -1) = 1", "hold(0, 0) = BEYOND", "parcel(0, 0) = 0", "hold(0, 0) = 1", "hold(9, 0) = 1",
            "count(7) = 2", "hold(10, 0) = BEYOND", "hold(-1, 0) = BEYOND", "hold(0, 1) = BEYOND",
            "hold(0, -2) = BEYOND", "hold(0, MIN) = BEYOND", "as(0, 0) = 0", "hold(0, -1) = 1", "count(7) = 1",
            "as(0, 0) = MISSING", "as(9, 0) = 0", "parcel(1, 0) = 1", "hold(9, 1) = 1", "as(9, 0) = 1",
            "status(0) = 6");
        Runs.run("promise 31: as, wrong inputs",
            "as(-1, 0) = BEYOND", "as(10, 0) = BEYOND", "as(0, -1) = BEYOND", "as(0, 7) = BEYOND",
            "as(0, 6) = MISSING", "parcel(0, 0) = 0", "hold(0, 0) = 1", "as(0, 6) = KIND", "as(0, 7) = BEYOND",
            "as(1, 0) = MISSING", "change(0, 4, 2) = 0", "as(0, 0) = 0", "status(0) = 5", "status(5) = 2",
            "status(2) = 1");
        int[] under = {0b1, 0b11, 0b101, 0b1101, 0b11101, 0b100001, 0b1000011};
        for (int kind = 0; kind < under.length; kind++) {
            for (int asked = 0; asked < under.length; asked++) {
                boolean is = (under[kind] >> asked & 1) == 1;
                Runs.run("promise 31: as, kind " + kind, "parcel(0, 0) = 0", "parcel(" + kind + ", 0) = 1",
                    "hold(3, 1) = 1", "as(3, " + asked + ") = " + (is ? "1" : "KIND"));
            }
        }
    }

    private static void sheets() {
        Runs.run("promise 32: sheet",
            "sheet(0, 8, 40) = 40", "sheet(0, 16, 0) = 0", "sheet(3, 32, 5) = 5", "sheet(3, 0, 5) = 0",
            "load(3) = MISSING", "load(0) = 0", "sheet(4, 8, 1) = BEYOND", "sheet(-1, 8, 1) = BEYOND",
            "sheet(0, 9, 1) = BEYOND", "sheet(0, -8, 1) = BEYOND", "sheet(0, 64, 1) = BEYOND",
            "sheet(0, 7, -1) = BEYOND", "sheet(4, 8, -1) = BEYOND", "sheet(0, 8, -1) = SIZE",
            "sheet(0, 0, -1) = SIZE", "sheet(0, 8, MIN) = SIZE", "sheet(0, 8, 41) = BEYOND",
            "sheet(0, 0, 41) = BEYOND", "load(0) = 0", "status(0) = 9", "status(6) = 3");
        Runs.run("promise 32: sheet, all 0 anew",
            "sheet(0, 8, 3) = 3", "write(0, 0, 7) = 1", "write(0, 2, 9) = 1", "load(0) = 3", "listed(0) = 7",
            "sheet(0, 8, 3) = 3", "load(0) = 3", "listed(0) = 0", "listed(2) = 0");
        Runs.run("promise 33: write",
            "write(0, 0, 1) = MISSING", "write(4, 0, 1) = BEYOND", "write(-1, 0, 1) = BEYOND",
            "write(0, -1, 1) = MISSING", "sheet(0, 8, 2) = 2", "write(0, 0, 1) = 1", "write(0, 1, 2) = 1",
            "write(0, 2, 1) = BEYOND", "write(0, -1, 1) = BEYOND", "write(0, MAX, 1) = BEYOND", "load(0) = 2",
            "listed(0) = 1", "listed(1) = 2", "status(0) = 5", "status(5) = 2");
        Runs.run("promise 33: write, the lowest bits with their sign",
            "parcel(0, 5) = 0", "sheet(0, 8, 1) = 1", "write(0, 0, 261) = 1", "judge(0) = 0", "write(0, 0, -251) = 1",
            "judge(0) = 0", "write(0, 0, 133) = 1", "judge(0) = 1", "sheet(0, 16, 1) = 1", "write(0, 0, 65541) = 1",
            "judge(0) = 0", "write(0, 0, 261) = 1", "judge(0) = 1", "sheet(0, 32, 1) = 1", "write(0, 0, 65541) = 1",
            "judge(0) = 1", "write(0, 0, 5) = 1", "judge(0) = 0", "sheet(0, 8, 1) = 1", "write(0, 0, 255) = 1",
            "fits(0, 0) = 2097151", "write(0, 0, 127) = 1", "fits(0, 0) = 0", "sheet(0, 16, 1) = 1",
            "write(0, 0, 65535) = 1", "fits(0, 0) = 2097151", "write(0, 0, 255) = 1", "fits(0, 0) = 0",
            "sheet(0, 32, 1) = 1", "write(0, 0, -1) = 1", "fits(0, 0) = 2097151", "write(0, 0, 65535) = 1",
            "fits(0, 0) = 0");
    }

    private static void copies() {
        Runs.run("promise 34: copy",
            "copy(0, 0, 1, 0, 0) = MISSING", "copy(-1, 0, 1, 0, 0) = BEYOND", "copy(0, 0, 4, 0, 0) = BEYOND",
            "copy(4, 0, 0, 0, 0) = BEYOND", "copy(0, 0, -1, 0, 0) = BEYOND", "sheet(0, 8, 6) = 6",
            "copy(0, 0, 1, 0, 0) = MISSING", "copy(1, 0, 0, 0, 0) = MISSING", "sheet(1, 16, 4) = 4",
            "copy(0, 0, 1, 0, 0) = KIND", "copy(0, 9, 1, 0, -1) = KIND", "sheet(1, 8, 4) = 4",
            "copy(0, -1, 1, 0, 1) = BEYOND", "copy(0, 0, 1, -1, 1) = BEYOND", "copy(0, 0, 1, 0, -1) = BEYOND",
            "copy(0, 0, 1, 0, 5) = BEYOND", "copy(1, 0, 0, 0, 5) = BEYOND", "copy(0, 4, 1, 0, 3) = BEYOND",
            "copy(0, 0, 1, 2, 3) = BEYOND", "copy(0, MAX, 1, 0, MAX) = BEYOND", "copy(0, 1, 1, MAX, 1) = BEYOND",
            "copy(0, 6, 1, 4, 0) = 0", "copy(0, 7, 1, 0, 0) = BEYOND", "copy(0, 0, 1, 5, 0) = BEYOND",
            "copy(0, 0, 1, 0, 4) = 4", "copy(0, 5, 1, 3, 1) = 1", "status(0) = 15", "status(5) = 3",
            "status(2) = 2");
        Runs.run("promise 34: copy, as they all were",
            "sheet(0, 8, 6) = 6", "write(0, 0, 1) = 1", "write(0, 1, 2) = 1", "write(0, 2, 3) = 1",
            "write(0, 3, 4) = 1", "copy(0, 0, 0, 1, 3) = 3", "load(0) = 6", "listed(0) = 1", "listed(1) = 1",
            "listed(2) = 2", "listed(3) = 3", "listed(4) = 0", "copy(0, 1, 0, 0, 3) = 3", "load(0) = 6",
            "listed(0) = 1", "listed(1) = 2", "listed(2) = 3", "listed(3) = 3", "sheet(2, 8, 3) = 3",
            "copy(0, 1, 2, 1, 2) = 2", "load(2) = 3", "listed(0) = 0", "listed(1) = 2", "listed(2) = 3",
            "listed(3) = 3");
    }

    private static void loadsAndJudges() {
        Runs.run("promise 35: load",
            "load(-1) = BEYOND", "load(4) = BEYOND", "load(0) = MISSING", "sheet(0, 16, 8) = 8",
            "write(0, 0, 20) = 1", "write(0, 1, 3) = 1", "write(0, 2, 21) = 1", "write(0, 3, 4) = 1",
            "tide(2, 9) = 0", "tide(3, 8) = 0", "load(0) = 2", "listed(0) = 20", "listed(1) = 3", "listed(2) = 9",
            "listed(3) = 8", "write(0, 2, -1) = 1", "load(0) = 2", "write(0, 2, 2) = 1", "write(0, 5, 6) = 1",
            "load(0) = 6", "listed(2) = 2", "listed(3) = 4", "listed(5) = 6", "write(0, 0, 21) = 1", "load(0) = 0",
            "listed(0) = 20", "sheet(0, 8, 0) = 0", "load(0) = 0", "status(0) = 2", "status(5) = 1");
        Runs.run("promise 36: judge",
            "judge(-1) = BEYOND", "judge(4) = BEYOND", "judge(0) = MISSING", "sheet(0, 8, 0) = 0", "judge(0) = 0",
            "sheet(0, 8, 2) = 2", "judge(0) = 1", "parcel(0, 0) = 0", "judge(0) = 2", "parcel(0, 4) = 1",
            "judge(0) = 2", "write(0, 1, 4) = 1", "judge(0) = 0", "change(0, 4, 2) = 0", "judge(0) = 0",
            "parcel(0, 9) = 2", "judge(0) = 0", "change(0, 1, 1) = 0", "judge(0) = 1", "write(0, 0, -1) = 1",
            "judge(0) = 1", "status(0) = 2", "status(5) = 1");
    }

    private static void images() {
        Runs.run("promises 37, 38: image and undo",
            "undo() = NONE", "tide(0, 4) = 0", "tide(2, 15) = 0", "set(1, 2) = 0", "parcel(3, 6) = 0",
            "parcel(1, 9) = 1", "change(1, 2, 7) = 10", "change(1, 3, 2) = 0", "change(1, 6, 3) = 0",
            "change(1, 5, 1) = 0", "hold(2, 1) = 1", "seed(44) = 1", "go(1) = 1", "image() = 1",
            "tide(0, 5) = 4", "set(1, 9) = 2", "set(0, 9) = 1", "go(5) = 1", "parcel(4, 4) = 2", "hold(2, 2) = 1",
            "hold(3, 0) = 1", "change(0, 4, 2) = 1", "change(1, 0, 2) = 1", "change(1, 1, 2) = 9",
            "change(1, 2, 2) = 7", "change(1, 3, 0) = 8", "change(1, 4, 2) = 0", "change(1, 5, 0) = 1",
            "change(1, 6, 0) = 3", "swell(2) = 0", "feed(65, 1) = 1", "sheet(0, 8, 2) = 2", "undo() = 1",
            "listed(0) = 4", "now(0) = 1", "now(1) = 12", "now(2) = 1", "now(6) = 17", "count(1) = 2",
            "count(5) = 1", "count(6) = 44", "count(7) = 1", "as(2, 0) = 1", "as(3, 0) = MISSING", "of(0, 4) = 1",
            "of(1, 0) = 1", "of(1, 1) = 9", "of(1, 2) = 7", "of(1, 3) = 3", "of(1, 4) = 0", "of(1, 5) = 1",
            "of(1, 6) = 3", "of(2, 0) = BEYOND", "load(0) = 2", "status(3) = 1", "status(-1) = 3");
        Runs.run("promise 38: what was kept latest stays",
            "image() = 1", "go(3) = 0", "image() = 1", "go(4) = 0", "undo() = 3", "go(9) = 0", "undo() = 3",
            "now(0) = 3", "undo() = 3", "parcel(0, 0) = 0", "undo() = 3", "count(1) = 0", "parcel(5, 7) = 0",
            "of(0, 1) = 7", "of(0, 2) = 10");
        Runs.run("promise 38: a PARCEL that is new behind it is as at first",
            "image() = 1", "parcel(4, 9) = 0", "change(0, 2, 7) = 10", "change(0, 3, 2) = 0", "change(0, 4, 2) = 0",
            "change(0, 5, 1) = 0", "change(0, 6, 3) = 0", "ahead(0, 1, 0) = 9", "undo() = 0", "tape \"letter\"",
            "text() = 1",
            "of(0, 0) = 1", "of(0, 1) = 0", "of(0, 2) = 10", "of(0, 3) = 0", "of(0, 4) = 0", "of(0, 5) = 0",
            "of(0, 6) = 0", "change(0, 1, 9) = 0", "change(0, 2, 7) = 10", "change(0, 3, 2) = 0",
            "change(0, 4, 2) = 0", "change(0, 5, 1) = 0", "change(0, 6, 3) = 0", "undo() = 0", "parcel(2, 0) = 0",
            "of(0, 0) = 2", "of(0, 1) = 0", "of(0, 2) = 10", "of(0, 3) = 0", "of(0, 4) = 0", "of(0, 5) = 0",
            "of(0, 6) = 0", "undo() = 0", "tape \"socks\"", "text() = 1", "of(0, 1) = 0", "of(0, 4) = 0");
        Runs.run("promise 38: sheets and tape aren't kept",
            "sheet(0, 8, 1) = 1", "write(0, 0, 5) = 1", "feed(65, 1) = 1", "image() = 1", "write(0, 0, 6) = 1",
            "sheet(1, 8, 1) = 1", "wipe() = 1", "undo() = 0", "load(0) = 1", "listed(0) = 6", "load(1) = 1",
            "count(5) = 0");
        Runs.run("promise 39: tear",
            "tear() = 0", "image() = 1", "tear() = 1", "tear() = 0", "undo() = NONE", "image() = 1", "image() = 1",
            "go(1) = 0", "undo() = 0", "tear() = 1", "undo() = NONE", "tear() = 0", "status(-1) = 2");
    }

    private static void countsAndStatus() {
        Runs.run("promise 40: count",
            "tide(0, 9) = 0", "parcel(3, 5) = 0", "parcel(4, 20) = 1", "parcel(0, 5) = 2", "hold(0, 1) = 1",
            "hold(5, 1) = 1", "hold(9, 0) = 1", "feed(0, 3) = 3", "seed(77) = 1", "go(2) = 0b101", "count(0) = 2",
            "count(1) = 3", "count(2) = 13", "count(3) = 1", "count(4) = 2", "count(5) = 3", "count(6) = 77",
            "count(7) = 3", "count(-1) = BEYOND", "count(8) = BEYOND", "count(MIN) = BEYOND", "status(0) = 3");
        Runs.run("promise 41: status",
            "status(-1) = 0", "status(0) = 0", "status(6) = 0", "status(7) = BEYOND", "status(-2) = BEYOND",
            "status(0) = 2", "status(-1) = 2", "status(MIN) = BEYOND", "status(0) = 3", "undo() = NONE",
            "status(3) = 1", "load(0) = MISSING", "status(5) = 1", "sheet(0, 8, -1) = SIZE", "status(6) = 1",
            "parcel(0, 0) = 0", "hold(0, 0) = 1", "as(0, 1) = KIND", "status(2) = 1",
            "tape \"socks;socks;socks;socks;socks;socks;socks\"", "text() = 7", "parcel(0, 0) = FULL",
            "status(1) = 1", "status(4) = 0", "status(-1) = 8", "image() = 1", "now(9) = BEYOND", "undo() = 0",
            "status(0) = 4", "status(-1) = 9", "tape \"x\"", "text() = -1", "status(-1) = 9",
            "seed(-1000001) = 1", "seed(1) = -1000001", "status(-1) = 9");
    }
}
