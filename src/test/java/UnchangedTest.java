import java.util.ArrayList;
import java.util.List;

/** An act that answers a finding changes nothing but status(): looked at on all that can be seen. */
public final class UnchangedTest {
    /** A coast with something in every corner; a tape, sheets of each sort, an image. */
    private static final List<String> BASE = List.of(
        "tide(0, 6)", "tide(1, 2)", "tide(2, 9)", "tide(3, 12)", "tide(5, 20)", "set(0, 4)", "set(1, 1)",
        "parcel(0, 9)", "parcel(6, 4)", "image()", "parcel(3, 11)", "parcel(4, 8)", "parcel(5, 17)",
        "change(1, 2, 30)", "change(2, 3, 7)", "change(3, 6, 5)", "change(4, 5, 1)", "hold(0, 2)", "hold(9, 1)",
        "seed(99)", "go(2)", "tape \"storm 5;crate on 3\"", "sheet(0, 8, 4)", "sheet(1, 16, 6)", "sheet(2, 8, 2)",
        "write(0, 0, 3)", "write(0, 1, 4)", "write(1, 5, 9)", "write(2, 1, 18)");

    private static final String FULL_SLIP = "parcel(1, 1)";

    private static final List<String> REFUSED = List.of(
        "tide(-1, 1) = BEYOND", "tide(6, 1) = BEYOND", "tide(0, -1) = BEYOND", "tide(0, 21) = BEYOND",
        "listed(-1) = BEYOND", "listed(6) = BEYOND", "set(-1, 1) = BEYOND", "set(2, 1) = BEYOND",
        "set(0, -1) = BEYOND", "set(0, 10000) = BEYOND", "set(1, -1) = BEYOND", "set(1, 10) = BEYOND",
        "parcel(-1, 0) = BEYOND", "parcel(7, 0) = BEYOND", "parcel(0, -1) = BEYOND", "parcel(0, 21) = BEYOND",
        "of(-1, 0) = BEYOND", "of(5, 0) = BEYOND", "of(0, -1) = BEYOND", "of(0, 11) = BEYOND",
        "change(-1, 1, 1) = BEYOND", "change(5, 1, 1) = BEYOND", "change(0, -1, 1) = BEYOND",
        "change(0, 7, 1) = BEYOND", "change(0, 0, -1) = BEYOND", "change(0, 0, 7) = BEYOND",
        "change(0, 1, -1) = BEYOND", "change(0, 1, 21) = BEYOND", "change(0, 2, 0) = BEYOND",
        "change(0, 2, 100) = BEYOND", "change(0, 3, -1) = BEYOND", "change(0, 3, 10000) = BEYOND",
        "change(0, 4, -1) = BEYOND", "change(0, 4, 3) = BEYOND", "change(0, 5, -1) = BEYOND",
        "change(0, 5, 2) = BEYOND", "change(0, 6, -1) = BEYOND", "change(0, 6, 10000) = BEYOND",
        "signs(-1, 1) = BEYOND", "signs(5, 1) = BEYOND", "signs(0, -1) = BEYOND", "signs(0, 30) = BEYOND",
        "onLine(-1) = BEYOND", "onLine(21) = BEYOND", "go(-1) = BEYOND", "go(0) = BEYOND", "go(61) = BEYOND",
        "now(-1) = BEYOND", "now(8) = BEYOND", "ahead(5, 1, 1) = BEYOND", "ahead(0, 2, 1) = BEYOND",
        "ahead(0, 1, -1) = BEYOND", "ahead(0, 1, 101) = BEYOND", "sea(0, 1) = BEYOND", "sea(3, 1) = BEYOND",
        "sea(1, -1) = BEYOND", "sea(1, 101) = BEYOND", "when(5, 1) = BEYOND", "when(0, 0) = BEYOND",
        "when(0, 3) = BEYOND", "when(4, 1) = NONE", "paid(-1) = BEYOND", "paid(99999) = NONE",
        "paid(100000) = BEYOND", "lineFor(5, 1) = BEYOND", "lineFor(0, -1) = BEYOND", "lineFor(0, 61) = BEYOND",
        "lineFor(4, 60) = NONE", "weightFor(5, 1) = BEYOND", "weightFor(0, -1) = BEYOND",
        "weightFor(0, 61) = BEYOND", "weightFor(4, 60) = NONE", "kindFor(5, 1) = BEYOND", "kindFor(0, -1) = BEYOND",
        "kindFor(0, 61) = BEYOND", "stormFor(5, 1) = BEYOND", "stormFor(0, -1) = BEYOND",
        "stormFor(0, 61) = BEYOND", "stormFor(4, 60) = NONE", "holdBack(-1) = BEYOND", "holdBack(21) = BEYOND",
        "fits(-1, 0) = BEYOND", "fits(4, 0) = BEYOND", "fits(3, 0) = MISSING", "fits(0, -1) = BEYOND",
        "fits(0, 5) = BEYOND", "kinds(-1, 0) = BEYOND", "kinds(4, 0) = BEYOND", "kinds(3, 0) = MISSING",
        "kinds(0, -1) = BEYOND", "kinds(0, 5) = BEYOND", "swell(-1) = BEYOND", "swell(0) = BEYOND",
        "swell(21) = BEYOND", "odds(5, 1, 0) = BEYOND", "odds(0, -1, 0) = BEYOND", "odds(0, 14, 0) = BEYOND",
        "odds(0, 1, -1) = BEYOND", "odds(0, 1, 2) = BEYOND", "feed(65, -1) = BEYOND", "feed(65, 0) = BEYOND",
        "feed(65, 5) = BEYOND", "hold(-1, 0) = BEYOND", "hold(10, 0) = BEYOND", "hold(0, -2) = BEYOND",
        "hold(0, 5) = BEYOND", "as(-1, 0) = BEYOND", "as(10, 0) = BEYOND", "as(0, -1) = BEYOND",
        "as(0, 7) = BEYOND", "as(1, 0) = MISSING", "as(9, 2) = KIND", "sheet(-1, 8, 1) = BEYOND",
        "sheet(4, 8, 1) = BEYOND", "sheet(0, 9, 1) = BEYOND", "sheet(0, 16, -1) = SIZE", "sheet(0, 0, -1) = SIZE",
        "sheet(0, 16, 41) = BEYOND", "sheet(0, 0, 41) = BEYOND", "write(-1, 0, 1) = BEYOND",
        "write(4, 0, 1) = BEYOND", "write(3, 0, 1) = MISSING", "write(0, -1, 1) = BEYOND",
        "write(0, 4, 1) = BEYOND", "copy(-1, 0, 0, 0, 1) = BEYOND", "copy(4, 0, 0, 0, 1) = BEYOND",
        "copy(0, 0, 4, 0, 1) = BEYOND", "copy(0, 0, 3, 0, 1) = MISSING", "copy(3, 0, 0, 0, 1) = MISSING",
        "copy(0, 0, 1, 0, 1) = KIND", "copy(0, 0, 2, 1, 2) = BEYOND", "copy(0, 3, 2, 0, 2) = BEYOND",
        "copy(0, 0, 2, 0, -1) = BEYOND", "copy(0, -1, 2, 0, 2) = BEYOND", "copy(0, 0, 2, -1, 2) = BEYOND",
        "load(-1) = BEYOND", "load(4) = BEYOND", "load(3) = MISSING", "judge(-1) = BEYOND", "judge(4) = BEYOND",
        "judge(3) = MISSING", "count(-1) = BEYOND", "count(8) = BEYOND", "status(-2) = BEYOND",
        "status(7) = BEYOND");

    /** These tell what is or will be: they change nothing, not even status(). */
    private static final List<String> TOLD = List.of(
        "listed(3)", "of(3, 9)", "signs(2, 20)", "onLine(9)", "now(6)", "ahead(2, 1, 60)", "sea(1, 100)",
        "when(4, 2)", "paid(0)", "lineFor(0, 9)", "weightFor(2, 40)", "kindFor(3, 60)", "stormFor(2, 20)",
        "holdBack(20)", "fits(0, 0)", "kinds(1, 3)", "odds(1, 13, 1)", "as(0, 2)", "judge(0)", "count(6)",
        "status(-1)", "status(0)");

    private static List<String> with(List<String> base, String... more) {
        List<String> rows = new ArrayList<>(base);
        rows.addAll(List.of(more));
        return rows;
    }

    private static void look(List<String> seen, SeaParcels x) {
        for (int what = 0; what <= 7; what++) {
            seen.add("now " + what + ": " + x.now(what));
            seen.add("count " + what + ": " + x.count(what));
        }
        for (int i = 0; i < 6; i++) {
            seen.add("listed " + i + ": " + x.listed(i));
        }
        for (int p = 0; p < x.count(1); p++) {
            for (int what = 0; what <= 6; what++) {
                seen.add("of " + p + " " + what + ": " + x.of(p, what));
            }
        }
        for (int spot = 0; spot < 10; spot++) {
            seen.add("as " + spot + ": " + x.as(spot, 0));
        }
        seen.add("storm: " + x.set(1, 0));
    }

    /** Numbers of a sheet come one by one onto another one of as many bits, and from there to THE LIST. */
    private static void lookAtSheet(List<String> seen, List<String> rows, int s) {
        SeaParcels x = Runs.silently(rows);
        int t = (s + 1) % 4;
        for (int bits = 8; bits <= 32; bits *= 2) {
            x.sheet(t, bits, 1);
            for (int i = 0; i <= 40; i++) {
                int came = x.copy(s, i, t, 0, 1);
                seen.add("sheet " + s + " " + bits + " " + i + ": " + came);
                if (came == 1) {
                    seen.add(x.load(t) + " " + x.listed(0));
                }
            }
        }
    }

    /** All that can be seen of what the rows made; each look has an object of its own. */
    private static String sight(List<String> rows) {
        List<String> seen = new ArrayList<>();
        look(seen, Runs.silently(rows));
        for (int s = 0; s < 4; s++) {
            lookAtSheet(seen, rows, s);
        }
        SeaParcels x = Runs.silently(rows);
        seen.add("undo: " + x.undo());
        look(seen, x);
        x = Runs.silently(rows);
        seen.add("text: " + x.text());
        look(seen, x);
        return seen.toString();
    }

    private static String statuses(List<String> rows) {
        SeaParcels x = Runs.silently(rows);
        List<Integer> all = new ArrayList<>();
        for (int which = -1; which <= 6; which++) {
            all.add(x.status(which));
        }
        return all.toString();
    }

    private static String statusesWith(String finding) {
        List<Integer> all = new ArrayList<>();
        all.add(1);
        for (String one : Runs.FINDINGS) {
            all.add(one.equals(finding) ? 1 : 0);
        }
        return all.toString();
    }

    private static void unchanged(List<String> base, String row) {
        String finding = row.substring(row.lastIndexOf('=') + 1).trim();
        Runs.more("a finding", Runs.silently(base), row);
        Runs.due("unchanged", row, sight(with(base, row)), sight(base));
        Runs.due("status", row, statuses(with(base, row)), statusesWith(finding));
    }

    public static void main(String[] args) {
        for (String row : REFUSED) {
            unchanged(BASE, row);
        }
        for (String row : TOLD) {
            Runs.due("unchanged", row, sight(with(BASE, row)), sight(BASE));
            Runs.due("status", row, statuses(with(BASE, row)), "[0, 0, 0, 0, 0, 0, 0, 0]");
        }
        List<String> torn = with(BASE, "tear()");
        unchanged(torn, "undo() = NONE");
        List<String> full = with(BASE, FULL_SLIP, FULL_SLIP, FULL_SLIP);
        unchanged(full, "parcel(0, 0) = FULL");
        List<String> held = with(BASE, "change(3, 5, 1)");
        unchanged(held, "cleared() = NONE");
        List<String> fed = new ArrayList<>(BASE);
        for (int i = 0; i < 25; i++) {
            fed.add("feed(538976288, 4)");
        }
        fed.add("feed(32, 1)");
        unchanged(fed, "feed(65, 4) = FULL");
        // No 512 calls come to so late a DAY; what is refused then is told by the document all the same.
        List<String> late = new ArrayList<>(BASE);
        for (int i = 0; i < 1666; i++) {
            late.add("go(60)");
        }
        unchanged(late, "go(38) = STATE");
        late.add("go(20)");
        unchanged(late, "swell(18) = STATE");
        Runs.end();
    }
}
